import java.util.Random;

/**
 * Every byte of class files, against files written here by hand and by a second writer.
 * Long files take more than the 512 calls of an object that the document promises; this
 * class goes on answering, and so the files are looked at whole.
 */
public final class ClassFileTest {
    private static final String[] OPS = {"60", "64", "68", "6C", "70"};

    public static void main(String[] args) {
        withoutRows();
        everyOp();
        twoMembers();
        jumpsAtTheEdges();
        longest();
        everyCountOfRows();
        randomPrograms();
        Check.end();
    }

    private static byte[] fromHex(String hex) {
        String signs = hex.replace(" ", "");
        byte[] bytes = new byte[signs.length() / 2];
        for (int i = 0; i < bytes.length; i++) {
            bytes[i] = (byte) Integer.parseInt(signs.substring(2 * i, 2 * i + 2), 16);
        }
        return bytes;
    }

    private static void compare(String what, ClassMaker4 x, int type, byte[] want) {
        int different = -1;
        for (int i = 0; i < want.length && different < 0; i++) {
            try {
                if (x.octet(type, i) != want[i]) {
                    different = i;
                }
            } catch (ArrayIndexOutOfBoundsException e) {
                different = i;
            }
        }
        Check.due(what + ": first byte that differs", different, -1);
        Check.noOctet(x, type, want.length);
        if (type == x.count(2)) {
            Check.due(what + ": bytes", x.count(3), want.length);
        }
    }

    /** The constants behind the first one, up to "()V". */
    private static final String FIXED =
        "07 0001"
        + "01 0010 6A6176612F6C616E672F4F626A656374"
        + "07 0003"
        + "01 0001 57" + "01 0002 5B42" + "0C 0005 0006" + "09 0002 0007"
        + "01 0001 4B" + "07 0009"
        + "01 0004 63616C6C" + "01 0004 28492956" + "0C 000B 000C" + "0A 000A 000D"
        + "01 0004 6D61726B" + "0C 000F 000C" + "0A 000A 0010"
        + "01 0004 73746F70" + "0C 0012 000C" + "0A 000A 0013"
        + "01 0004 73697A65" + "0C 0015 000C" + "0A 000A 0016"
        + "01 0004 436F6465" + "01 0004 28492949"
        + "01 0008 3C636C696E69743E" + "01 0003 282956";

    private static final String FACE = "0021 0002 0004 0000 0001 0008 0005 0006 0000";

    private static void withoutRows() {
        ClassMaker4 x = new ClassMaker4();
        for (int p = 1; p <= 12; p++) {
            x.program(p == 12 ? 100 : 1, p == 12);
        }
        x.unit();
        Check.due("make", x.make(1, 1), 1);
        Check.due("make", x.make(1, 12), 2);
        compare("P1", x, 1, fromHex("CAFEBABE 0000 002E 001C" + "01 0002 5031" + FIXED + FACE + "0001"
            + "0008 001A 001B 0001 0018 00000014 0002 0000 00000008" + "10 01 BC 08 B3 0008 B1" + "0000 0000"
            + "0000"));
        compare("P12", x, 2, fromHex("CAFEBABE 0000 002E 001C" + "01 0003 503132" + FIXED + FACE + "0001"
            + "0008 001A 001B 0001 0018 00000018 0002 0000 0000000C" + "03 03 6C 57 10 64 BC 08 B3 0008 B1" + "0000 0000"
            + "0000"));
    }

    private static final String START_OF_3 =
        "0008 001A 001B 0001 0018 00000014 0002 0000 00000008" + "10 03 BC 08 B3 0008 B1" + "0000 0000";

    /** Rows 1 .. 10 in one member, 11 .. 14 in the next one: each op once. */
    private static void everyOp() {
        ClassMaker4 x = new ClassMaker4();
        x.program(3, false);
        x.unit();
        x.code(1, 0, 2, -128);
        x.code(1, 1, 1, 2);
        x.code(1, 2, 0, 1);
        x.code(1, 3, 1, 2);
        x.code(1, 4, 2, 0);
        x.code(1, 5, 0, 2);
        x.code(1, 6, 1, 0);
        x.code(1, 7, 1, 2);
        x.code(1, 8, 2, 1);
        x.code(1, 9, 0, 9);
        x.code(1, 10, 12, 0);
        x.code(1, 11, 127, 0);
        x.code(1, 12, 0, 0);
        x.code(1, 13, 2, -1);
        x.make(1, 1);
        // places of the rows in m0: 56, 64, 76, 96, 116, 136, 156, 176, 192, 204; its end: 207
        String first = "1A AA 0000 000000CE 00000001 0000000A"
            + "00000037 0000003F 0000004B 0000005F 00000073 00000087 0000009B 000000AF 000000BF 000000CB"
            + "B20008 10 02 10 80 54"
            + "B20008 10 01 B20008 10 02 33 54"
            + "B20008 10 00 B20008 10 00 33 B20008 10 01 33 60 91 54"
            + "B20008 10 01 B20008 10 01 33 B20008 10 02 33 64 91 54"
            + "B20008 10 02 B20008 10 02 33 B20008 10 00 33 68 91 54"
            + "B20008 10 00 B20008 10 00 33 B20008 10 02 33 6C 91 54"
            + "B20008 10 01 B20008 10 01 33 B20008 10 00 33 70 91 54"
            + "B20008 B20008 10 01 33 B20008 10 02 33 54"
            + "B20008 10 02 33 9A0006 A7FF6F"
            + "A7FFF4"
            + "11 000B AC";
        // places in m1: 32, 37, 42, 47; its end: 63
        String second = "1A AA 0000 0000003E 0000000B 0000000E"
            + "0000001F 00000024 00000029 0000002E"
            + "10 0C B8000E" + "10 7F B80011" + "10 00 B80014"
            + "B20008 10 02 33 10 FF A40008 10 02 B80017"
            + "11 000F AC";
        compare("every op", x, 1, fromHex("CAFEBABE 0000 002E 001E" + "01 0002 5031" + FIXED
            + "01 0002 6D30" + "01 0002 6D31" + FACE + "0003" + START_OF_3
            + "0008 001C 0019 0001 0018 000000DF 0005 0001 000000D3" + first + "0000 0000"
            + "0008 001D 0019 0001 0018 0000004F 0005 0001 00000043" + second + "0000 0000"
            + "0000"));
    }

    private static void twoMembers() {
        ClassMaker4 x = new ClassMaker4();
        x.program(3, false);
        x.unit();
        for (int i = 1; i <= 10; i++) {
            x.code(1, 9, 0, i == 10 ? 11 : i + 1);
        }
        x.code(1, 8, 1, 10);
        x.make(1, 1);
        String first = "1A AA 0000 00000056 00000001 0000000A"
            + "00000037 0000003A 0000003D 00000040 00000043 00000046 00000049 0000004C 0000004F 00000052"
            + "A70003 A70003 A70003 A70003 A70003 A70003 A70003 A70003 A70003"
            + "11 000B AC" + "11 000B AC";
        String second = "1A AA 0000 00000020 0000000B 0000000B 00000013"
            + "B20008 10 01 33 9A0007 11 000A AC" + "11 000C AC";
        compare("two members", x, 1, fromHex("CAFEBABE 0000 002E 001E" + "01 0002 5031" + FIXED
            + "01 0002 6D30" + "01 0002 6D31" + FACE + "0003" + START_OF_3
            + "0008 001C 0019 0001 0018 00000067 0005 0001 0000005B" + first + "0000 0000"
            + "0008 001D 0019 0001 0018 00000031 0005 0001 00000025" + second + "0000 0000"
            + "0000"));
    }

    /** A row beyond the last one is no row of the member, until there is such a row. */
    private static void jumpsAtTheEdges() {
        ClassMaker4 x = new ClassMaker4();
        x.program(3, false);
        x.unit();
        x.code(1, 9, 0, 2);
        x.make(1, 1);
        x.code(1, 9, 0, 2);
        x.make(1, 1);
        String head = "CAFEBABE 0000 002E 001D" + "01 0002 5031" + FIXED + "01 0002 6D30" + FACE + "0002" + START_OF_3
            + "0008 001C 0019 0001 0018 ";
        compare("beyond the last row", x, 1, fromHex(head + "00000028 0005 0001 0000001C"
            + "1A AA 0000 00000017 00000001 00000001 00000013" + "11 0002 AC" + "11 0002 AC" + "0000 0000" + "0000"));
        compare("the last row, and to itself", x, 2, fromHex(head + "0000002E 0005 0001 00000022"
            + "1A AA 0000 0000001D 00000001 00000002 00000017 0000001A" + "A70003" + "A70000" + "11 0003 AC" + "0000 0000" + "0000"));
    }

    private static void longest() {
        ClassMaker4 x = new ClassMaker4();
        for (int p = 1; p <= 12; p++) {
            x.program(100, true);
        }
        x.unit();
        for (int i = 0; i < 60; i++) {
            x.code(12, 2, 99, 99);
        }
        x.make(1, 12);
        Check.due("bytes of the longest one", x.count(3), 1979);
        Check.due("its last byte", x.octet(1, 1978), 0);
        Check.noOctet(x, 1, 1979);
    }

    private static int[] randomRow(Random random, int size) {
        int op = random.nextInt(14);
        int a = op <= 8 || op == 13 ? random.nextInt(size) : op == 10 ? 1 + random.nextInt(12) : random.nextInt(128);
        int b = op == 0 || op == 13 ? random.nextInt(256) - 128 : op <= 7 ? random.nextInt(size) : 1 + random.nextInt(61);
        return new int[] {op, a, b};
    }

    private static void everyCountOfRows() {
        for (int seed = 1; seed <= 8; seed++) {
            Random random = new Random(seed);
            ClassMaker4 x = new ClassMaker4();
            boolean fails = seed % 2 == 0;
            int size = 1 + random.nextInt(100);
            x.program(size, fails);
            int[][] rows = new int[60][];
            int next = seed;
            for (int count = 0; count <= 60; count++) {
                if (count > 0) {
                    rows[count - 1] = randomRow(random, size);
                    x.code(1, rows[count - 1][0], rows[count - 1][1], rows[count - 1][2]);
                }
                if (count == next || count % 10 == 0) {
                    next += 4;
                    int unit = x.unit() > 0 ? x.count(1) : 8;
                    int type = x.make(unit, 1);
                    compare(count + " rows", x, type, written(1, size, fails, rows, count));
                }
            }
        }
    }

    /** All classes are looked at behind all the making, so that each keeps its own bytes. */
    private static void randomPrograms() {
        Random random = new Random(4);
        for (int round = 0; round < 40; round++) {
            ClassMaker4 x = new ClassMaker4();
            x.unit();
            int[] sizes = new int[12];
            int[][][] rows = new int[12][60][];
            int[] counts = new int[12];
            for (int p = 0; p < 12; p++) {
                sizes[p] = 1 + random.nextInt(100);
                x.program(sizes[p], p % 3 == 0);
            }
            int[] ofProgram = new int[41];
            int[] ofCount = new int[41];
            int made = 0;
            while (made < 40) {
                int p = random.nextInt(12);
                int more = 1 + random.nextInt(13);
                for (int i = 0; i < more && counts[p] < 60; i++) {
                    int[] row = randomRow(random, sizes[p]);
                    rows[p][counts[p]] = row;
                    counts[p]++;
                    Check.due("code", x.code(p + 1, row[0], row[1], row[2]), counts[p]);
                }
                int type = x.make(1, p + 1);
                if (type > made) {
                    made = type;
                    ofProgram[type] = p;
                    ofCount[type] = counts[p];
                }
            }
            for (int type = 1; type <= made; type++) {
                int p = ofProgram[type];
                compare("class " + type, x, type, written(p + 1, sizes[p], p % 3 == 0, rows[p], ofCount[type]));
            }
        }
    }

    // A second writer: rows as hex texts, with the places found from the texts' lengths.

    private static String u1(int value) {
        return String.format("%02X", value & 0xFF);
    }

    private static String u2(int value) {
        return String.format("%04X", value & 0xFFFF);
    }

    private static String u4(int value) {
        return String.format("%08X", value);
    }

    private static String text(String signs) {
        StringBuilder hex = new StringBuilder("01").append(u2(signs.length()));
        for (char c : signs.toCharArray()) {
            hex.append(u1(c));
        }
        return hex.toString();
    }

    private static String method(int name, int type, int stack, int locals, String code) {
        int n = code.length() / 2;
        return "0008" + u2(name) + u2(type) + "00010018" + u4(12 + n) + u2(stack) + u2(locals) + u4(n) + code + "00000000";
    }


    private static String jump(int to, int from, int first, int last, int[] places) {
        return to >= first && to <= last ? "A7" + u2(places[to] - from) : "11" + u2(to) + "AC";
    }

    private static String row(int[] row, int place, int first, int last, int[] places) {
        String a = u1(row[1]);
        String b = u1(row[2]);
        String x = "B2000810" + a + "33";
        String y = "B2000810" + b + "33";
        switch (row[0]) {
            case 0: return "B2000810" + a + "10" + b + "54";
            case 1: return "B2000810" + a + y + "54";
            case 7: return "B20008" + x + y + "54";
            case 8: {
                String t = jump(row[2], place + 9, first, last, places);
                return x + "9A" + u2(3 + t.length() / 2) + t;
            }
            case 9: return jump(row[2], place, first, last, places);
            case 10: return "10" + a + "B8000E";
            case 11: return "10" + a + "B80011";
            case 12: return "10" + a + "B80014";
            case 13: return x + "10" + b + "A4000810" + a + "B80017";
            default: return "B2000810" + a + x + y + OPS[row[0] - 2] + "9154";
        }
    }

    private static String member(int[][] rows, int first, int last) {
        int[] places = new int[62];
        int place = 16 + 4 * (last - first + 1);
        for (int r = first; r <= last; r++) {
            places[r] = place;
            place += row(rows[r - 1], 0, first, last, new int[62]).length() / 2;
        }
        StringBuilder code = new StringBuilder("1AAA0000").append(u4(place - 1)).append(u4(first)).append(u4(last));
        for (int r = first; r <= last; r++) {
            code.append(u4(places[r] - 1));
        }
        for (int r = first; r <= last; r++) {
            code.append(row(rows[r - 1], places[r], first, last, places));
        }
        return code.append("11").append(u2(last + 1)).append("AC").toString();
    }

    static byte[] written(int program, int size, boolean startFails, int[][] rows, int count) {
        int members = (count + 9) / 10;
        StringBuilder file = new StringBuilder("CAFEBABE0000002E").append(u2(28 + members));
        file.append(text("P" + program)).append(FIXED);
        for (int m = 0; m < members; m++) {
            file.append(text("m" + m));
        }
        file.append(FACE).append(u2(1 + members));
        file.append(method(26, 27, 2, 0, (startFails ? "03036C57" : "") + "10" + u1(size) + "BC08B30008B1"));
        for (int m = 0; m < members; m++) {
            file.append(method(28 + m, 25, 5, 1, member(rows, 10 * m + 1, Math.min(10 * m + 10, count))));
        }
        return fromHex(file.append("0000").toString());
    }
}
