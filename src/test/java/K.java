/** What the made classes call, when the Java machine itself runs them (RealMachineTest). */
public final class K {
    /** What the calls of the classes come to. */
    interface Host {
        void called(int program);

        void marked(int value);

        void stopped(int value);

        void tooBig();
    }

    static Host host;

    private K() {
    }

    public static void call(int program) {
        host.called(program);
    }

    public static void mark(int value) {
        host.marked(value);
    }

    public static void stop(int value) {
        host.stopped(value);
    }

    public static void size(int ignored) {
        host.tooBig();
    }
}
