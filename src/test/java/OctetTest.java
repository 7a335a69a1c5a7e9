/** The edges of promise 11: which bytes there are, members without rows and with ten, jumps, the largest numbers. */
public final class OctetTest {
    public static void main(String[] args) {
        Sentences.runAll(OctetTest.class);
    }

    /** Where the members' names begin in the file of a program below 10; each has 5 bytes. */
    private static final int NAMES = 172;
    /** From there, behind the names: the face of the class with its field, 18 bytes, then u2 methods. */
    private static final int METHODS = NAMES + 18;
    private static final int START = METHODS + 2;

    private static int octet(ClassMaker4 x, int type, int i) {
        return x.octet(type, i) & 0xFF;
    }

    private static int u2(ClassMaker4 x, int type, int i) {
        return octet(x, type, i) << 8 | octet(x, type, i + 1);
    }

    private static int u4(ClassMaker4 x, int type, int i) {
        return u2(x, type, i) << 16 | u2(x, type, i + 2);
    }

    /** The bytes from a place on are these. */
    private static void bytes(String what, ClassMaker4 x, int type, int from, String hex) {
        String signs = hex.replace(" ", "");
        StringBuilder got = new StringBuilder();
        for (int i = 0; i < signs.length() / 2; i++) {
            got.append(String.format("%02X", octet(x, type, from + i)));
        }
        Check.due(what + ": " + got + " are " + signs + ", that", got.toString().equals(signs), true);
    }

    /** Where a method begins: 0 the start, 1 the first member, .. */
    private static int methodAt(ClassMaker4 x, int type, int members, int method) {
        int place = START + 5 * members;
        for (int m = 0; m < method; m++) {
            place += 14 + u4(x, type, place + 10);
        }
        return place;
    }

    /** The whole of a member: its number, its bytes of code. */
    private static void member(ClassMaker4 x, int type, int members, int number, String code) {
        int n = code.replace(" ", "").length() / 2;
        bytes("m" + number, x, type, methodAt(x, type, members, 1 + number),
            "0008" + String.format("%04X", 28 + number) + "0019 0001 0018" + String.format("%08X", 12 + n)
            + "0005 0001" + String.format("%08X", n) + code + "0000 0000");
    }

    /** One program of a size with these rows, made. */
    private static ClassMaker4 made(int size, int... rows) {
        ClassMaker4 x = Setting.sized(size);
        Setting.rows(x, 1, rows);
        Check.due("class", x.make(1, 1), 1);
        return x;
    }

    /** The bytes of a class with one row, in its one member: those of the row. */
    private static void oneRow(int size, int op, int a, int b, String hex) {
        int length = hex.replace(" ", "").length() / 2;
        member(made(size, op, a, b), 1, 1, 0,
            "1A AA 0000" + String.format("%08X", 19 + length) + "00000001 00000001 00000013" + hex + "11 0002 AC");
    }

    // which bytes there are

    @Sentence(promise = 11, says = "ArrayIndexOutOfBoundsException when there is no such class or byte.")
    static void aByteTooSmallOrTooLarge() {
        ClassMaker4 x = made(1);
        for (int i : new int[] {Integer.MIN_VALUE, -1, 228, 229, 2048, Integer.MAX_VALUE}) {
            Check.noOctet(x, 1, i);
        }
        Check.due("the first one", octet(x, 1, 0), 0xCA);
        Check.due("the last one", octet(x, 1, 227), 0);
    }

    @Sentence(promise = 11, says = "ArrayIndexOutOfBoundsException when there is no such class or byte.")
    static void aByteOfNoClass() {
        ClassMaker4 x = Setting.programs(1);
        Check.noOctet(x, 1, 0);
        x.make(1, 1);
        for (int type : Setting.NEVER) {
            Check.noOctet(x, type, 0);
        }
        Check.noOctet(x, 2, 0);
        ClassMaker4 full = Setting.programs(12);
        Setting.fillClasses(full, 40);
        Check.due("the 40th", octet(full, 40, 0), 0xCA);
        Check.noOctet(full, 41, 0);
    }

    @Sentence(promise = 11, says = "A byte of a class file.")
    static void theLongestAndTheShortestFile() {
        ClassMaker4 x = new ClassMaker4();
        x.unit();
        for (int p = 1; p <= 12; p++) {
            x.program(100, true);
        }
        Setting.sameRows(x, 12, 60, 6, 99, 99);
        Check.due("class", x.make(1, 12), 1);
        // 6 members of 26 + 16 + 10 * 4 + 10 * 20 + 4 bytes, with names of 5
        Check.due("its length", x.count(3), 233 + 6 * (5 + 286));
        Check.due("its last byte", octet(x, 1, 1978), 0);
        Check.noOctet(x, 1, 1979);
        bytes("the last row and the end", x, 1, 1979 - 30, "B20008 10 63 B20008 10 63 33 B20008 10 63 33 70 91 54 11 003D AC 0000 0000 0000");
        ClassMaker4 y = made(1);
        Check.due("without rows", y.count(3), 228);
    }

    @Sentence(promise = 11, says = "is made of a program, as it is then")
    static void aFileStaysAsItWas() {
        ClassMaker4 x = made(1, 9, 0, 2);
        member(x, 1, 1, 0, "1A AA 0000 00000017 00000001 00000001 00000013" + "11 0002 AC" + "11 0002 AC");
        int length = x.count(3);
        Setting.rows(x, 1, 9, 0, 2);
        x.make(1, 1);
        x.run(1, 1);
        member(x, 1, 1, 0, "1A AA 0000 00000017 00000001 00000001 00000013" + "11 0002 AC" + "11 0002 AC");
        Check.noOctet(x, 1, length);
        member(x, 2, 1, 0, "1A AA 0000 0000001D 00000001 00000002 00000017 0000001A" + "A70003" + "A70000" + "11 0003 AC");
    }

    @Sentence(promise = 11, says = "is made of a program, as it is then")
    static void aFileFirstLookedAtLaterIsAsItWasThen() {
        ClassMaker4 x = Setting.programs(1);
        x.make(1, 1);
        Setting.rows(x, 1, 12, 0, 0);
        Setting.runNew(x, 1, 1);
        Check.due("without rows, dropped, its unit ended", octet(x, 1, 9), 28);
        Check.noOctet(x, 1, 228);
        Check.due("with a row, its unit ended", octet(x, 2, 9), 29);
        ClassMaker4 y = new ClassMaker4();
        y.program(1, true);
        y.unit();
        Setting.runNew(y, 1, 1);
        Check.due("its start failed", octet(y, 1, 231), 0);
        Check.noOctet(y, 1, 232);
    }

    // head and constants

    @Sentence(promise = 11, says = "numbers highest byte first (u1, u2, u4): CA FE BA BE, u2 0, u2 46")
    static void theHead() {
        bytes("head", made(1), 1, 0, "CAFEBABE 0000 002E 001C");
    }

    @Sentence(promise = 11, says = "u2 28 + how many members, constants from 1 on: U \"P\" and the program's number; C 1")
    static void programsOfOneAndOfTwoFigures() {
        ClassMaker4 x = Setting.programs(12);
        Setting.rows(x, 10, 11, 1, 0);
        int[] programs = {1, 9, 10, 12};
        String[] names = {"01 0002 50 31", "01 0002 50 39", "01 0003 50 31 30", "01 0003 50 31 32"};
        for (int i = 0; i < programs.length; i++) {
            Check.due("class", x.make(1, programs[i]), i + 1);
            bytes("P" + programs[i], x, i + 1, 10, names[i] + "07 0001 01 0010 6A617661");
        }
        Check.due("bytes of P12", x.count(3), 229);
        bytes("the first member's name of P10", x, 3, NAMES + 1, "01 0002 6D 30 0021 0002");
    }

    @Sentence(promise = 11, says = "U \"<clinit>\"; U \"()V\"; and U \"m0\", \"m1\", .. of the members")
    static void theNamesOfNoMemberAndOfSix() {
        bytes("none", made(1), 1, NAMES - 17, "01 0008 3C636C696E69743E 01 0003 282956"
            + "0021 0002 0004 0000 0001 0008 0005 0006 0000 0001");
        ClassMaker4 x = Setting.programs(1);
        Setting.sameRows(x, 1, 60, 11, 1, 0);
        x.make(1, 1);
        bytes("six", x, 1, NAMES, "01 0002 6D30 01 0002 6D31 01 0002 6D32 01 0002 6D33 01 0002 6D34 01 0002 6D35"
            + "0021 0002 0004 0000 0001 0008 0005 0006 0000 0007");
    }

    @Sentence(promise = 11, says = "U \"java/lang/Object\"; C 3; U \"W\"; U \"[B\"; N 5 6; F 2 7; U \"K\"; C 9; U \"call\"; U \"(I)V\"; N 11 12; M 10 13")
    static void theConstantsUpToTheFirstMethod() {
        bytes("constants", made(1), 1, 18, "01 0010 6A6176612F6C616E672F4F626A656374 07 0003 01 0001 57 01 0002 5B42"
            + "0C 0005 0006 09 0002 0007 01 0001 4B 07 0009 01 0004 63616C6C 01 0004 28492956 0C 000B 000C 0A 000A 000D");
    }

    @Sentence(promise = 11, says = "U \"mark\"; N 15 12; M 10 16; U \"stop\"; N 18 12; M 10 19; U \"size\"; N 21 12; M 10 22; U \"Code\"; U \"(I)I\"")
    static void theConstantsOfTheOtherMethods() {
        bytes("constants", made(1), 1, 18 + 72, "01 0004 6D61726B 0C 000F 000C 0A 000A 0010 01 0004 73746F70 0C 0012 000C 0A 000A 0013"
            + "01 0004 73697A65 0C 0015 000C 0A 000A 0016 01 0004 436F6465 01 0004 28492949");
    }

    @Sentence(promise = 11, says = "then u2 33, 2, 4, 0, 1 (a field: u2 8, 5, 6, 0), u2 1 + members: methods, u2 0")
    static void theFaceWithoutMembersAndWithSix() {
        String face = "0021 0002 0004 0000 0001 0008 0005 0006 0000";
        ClassMaker4 x = made(1);
        bytes("none", x, 1, NAMES, face + "0001");
        Setting.sameRows(x, 1, 60, 11, 1, 0);
        Check.due("class", x.make(1, 1), 2);
        bytes("six", x, 2, NAMES + 30, face + "0007");
        bytes("the end", x, 2, x.count(3) - 10, "11 003D AC 0000 0000 0000");
    }

    // the start

    @Sentence(promise = 11, says = "A method: u2 8, name, type, 1, 24, u4 12 + n, u2 stack, u2 locals, u4 n, n bytes, u2 0, 0. The first one (26, 27; stack 2, locals 0)")
    static void theShortestMethod() {
        bytes("start", made(1), 1, START, "0008 001A 001B 0001 0018 00000014 0002 0000 00000008 10 01 BC 08 B3 0008 B1 0000 0000");
    }

    @Sentence(promise = 11, says = "[03 03 6C 57, when its start fails] 10 size BC 08 B3 0 8 B1")
    static void theStartOfTheSmallestAndOfTheLargestSize() {
        ClassMaker4 x = new ClassMaker4();
        x.unit();
        for (int i = 0; i < 4; i++) {
            x.program(i < 2 ? 1 : 100, i % 2 == 1);
            Check.due("class", x.make(1, i + 1), i + 1);
        }
        String ends = "BC 08 B3 0008 B1 0000 0000 0000";
        String plain = "0008 001A 001B 0001 0018 00000014 0002 0000 00000008 10";
        String fails = "0008 001A 001B 0001 0018 00000018 0002 0000 0000000C 03 03 6C 57 10";
        bytes("1", x, 1, START, plain + "01" + ends);
        bytes("1, fails", x, 2, START, fails + "01" + ends);
        bytes("100", x, 3, START, plain + "64" + ends);
        bytes("100, fails", x, 4, START, fails + "64" + ends);
    }

    // members

    @Sentence(promise = 11, says = "Then a member for each ten rows (none without rows")
    static void noneWithoutRows() {
        ClassMaker4 x = made(1);
        Check.due("constants", u2(x, 1, 8), 28);
        Check.due("methods", u2(x, 1, METHODS), 1);
        Check.due("the end behind the start", u2(x, 1, 226), 0);
        Check.noOctet(x, 1, 228);
    }

    @Sentence(promise = 11, says = "Then a member for each ten rows (none without rows")
    static void oneMoreMemberForTheEleventhRow() {
        int[] rows = {1, 9, 10, 11, 20, 21, 50, 51, 59, 60};
        int[] members = {1, 1, 1, 2, 2, 3, 5, 6, 6, 6};
        for (int i = 0; i < rows.length; i++) {
            ClassMaker4 x = Setting.programs(1);
            Setting.sameRows(x, 1, rows[i], 11, 1, 0);
            x.make(1, 1);
            Check.due("constants with " + rows[i] + " rows", u2(x, 1, 8), 28 + members[i]);
            Check.due("methods", u2(x, 1, METHODS + 5 * members[i]), 1 + members[i]);
            Check.due("bytes", x.count(3), 228 + members[i] * (5 + 26 + 16 + 4) + rows[i] * (4 + 5));
            int last = methodAt(x, 1, members[i], members[i]);
            Check.due("the last one's name", u2(x, 1, last + 2), 27 + members[i]);
            Check.due("its first row", u4(x, 1, last + 22 + 8), 10 * members[i] - 9);
            Check.due("its last row", u4(x, 1, last + 22 + 12), rows[i]);
        }
    }

    @Sentence(promise = 11, says = "1A AA 0 0, u4 to its end, u4 its first row, u4 its last one, for each u4 to its bytes (counted from AA on)")
    static void tenRowsAndTheEleventh() {
        ClassMaker4 x = Setting.programs(1);
        Setting.sameRows(x, 1, 11, 11, 127, 0);
        x.make(1, 1);
        String mark = "10 7F B8 00 11";
        member(x, 1, 2, 0, "1A AA 0000 00000069 00000001 0000000A"
            + "00000037 0000003C 00000041 00000046 0000004B 00000050 00000055 0000005A 0000005F 00000064"
            + mark.repeat(10) + "11 000B AC");
        member(x, 1, 2, 1, "1A AA 0000 00000018 0000000B 0000000B 00000013" + mark + "11 000C AC");
    }

    @Sentence(promise = 11, says = "names 28 .., type 25, stack 5, locals 1")
    static void theLongestMethodsAndTheLastName() {
        // 16 + 10 * 4 + 10 * 20 + 4 bytes of code are more than one byte tells
        ClassMaker4 x = Setting.programs(1);
        Setting.sameRows(x, 1, 60, 4, 0, 0);
        x.make(1, 1);
        bytes("m0", x, 1, methodAt(x, 1, 6, 1), "0008 001C 0019 0001 0018 00000110 0005 0001 00000104 1A AA 0000 000000FF 00000001 0000000A 00000037");
        bytes("m5", x, 1, methodAt(x, 1, 6, 6), "0008 0021 0019 0001 0018 00000110 0005 0001 00000104 1A AA 0000 000000FF 00000033 0000003C 00000037");
        bytes("the way to the last row of m5", x, 1, methodAt(x, 1, 6, 6) + 22 + 52, "000000EB B20008");
    }

    @Sentence(promise = 11, says = "its rows; its end: 11 u2 (last row + 1) AC")
    static void theEndOfTheSixtiethRow() {
        ClassMaker4 x = Setting.programs(1);
        Setting.sameRows(x, 1, 60, 9, 0, 61);
        x.make(1, 1);
        String leave = "11 003D AC";
        member(x, 1, 6, 5, "1A AA 0000 0000005F 00000033 0000003C"
            + "00000037 0000003B 0000003F 00000043 00000047 0000004B 0000004F 00000053 00000057 0000005B"
            + leave.repeat(11));
    }

    // rows in bytes

    @Sentence(promise = 11, says = "ROWS in bytes; A, B a and b as a byte")
    static void negativeNumbersAsAByte() {
        oneRow(1, 0, 0, -128, "B20008 10 00 10 80 54");
        oneRow(1, 0, 0, -1, "B20008 10 00 10 FF 54");
        oneRow(1, 13, 0, -2, "B20008 10 00 33 10 FE A40008 10 00 B80017");
    }

    @Sentence(promise = 11, says = "0 B2 0 8 10 A 10 B 54")
    static void theLowestAndTheHighestOfOp0() {
        oneRow(100, 0, 0, -128, "B20008 10 00 10 80 54");
        oneRow(100, 0, 99, 127, "B20008 10 63 10 7F 54");
    }

    @Sentence(promise = 11, says = "X is B2 0 8 10 A 33, Y with B")
    static void theLastByteAsXAndAsY() {
        oneRow(100, 7, 99, 0, "B20008 B20008 10 63 33 B20008 10 00 33 54");
        oneRow(100, 7, 0, 99, "B20008 B20008 10 00 33 B20008 10 63 33 54");
    }

    @Sentence(promise = 11, says = "1 B2 0 8 10 A Y 54")
    static void theLowestAndTheHighestOfOp1() {
        oneRow(100, 1, 0, 99, "B20008 10 00 B20008 10 63 33 54");
        oneRow(100, 1, 99, 0, "B20008 10 63 B20008 10 00 33 54");
    }

    @Sentence(promise = 11, says = "7 B2 0 8 X Y 54")
    static void theLowestAndTheHighestOfOp7() {
        oneRow(1, 7, 0, 0, "B20008 B20008 10 00 33 B20008 10 00 33 54");
        oneRow(100, 7, 99, 98, "B20008 B20008 10 63 33 B20008 10 62 33 54");
    }

    @Sentence(promise = 11, says = "10, 11, 12 10 A B8 0 and 0E, 11, 14")
    static void theLowestAndTheHighestOfOps10To12() {
        oneRow(1, 10, 1, 0, "10 01 B8000E");
        oneRow(1, 10, 12, 0, "10 0C B8000E");
        oneRow(1, 11, 0, 0, "10 00 B80011");
        oneRow(1, 11, 127, 0, "10 7F B80011");
        oneRow(1, 12, 0, 0, "10 00 B80014");
        oneRow(1, 12, 127, 0, "10 7F B80014");
    }

    @Sentence(promise = 11, says = "13 X 10 B A4 0 8 10 A B8 0 17")
    static void theLowestAndTheHighestOfOp13() {
        oneRow(100, 13, 99, -128, "B20008 10 63 33 10 80 A40008 10 63 B80017");
        oneRow(100, 13, 0, 127, "B20008 10 00 33 10 7F A40008 10 00 B80017");
    }

    @Sentence(promise = 11, says = "2 .. 6 B2 0 8 10 A X Y, 60, 64, 68, 6C, 70, 91 54")
    static void theFirstAndTheLastOfFiveOps() {
        oneRow(100, 2, 0, 99, "B20008 10 00 B20008 10 00 33 B20008 10 63 33 60 91 54");
        oneRow(100, 3, 1, 2, "B20008 10 01 B20008 10 01 33 B20008 10 02 33 64 91 54");
        oneRow(100, 4, 1, 2, "B20008 10 01 B20008 10 01 33 B20008 10 02 33 68 91 54");
        oneRow(100, 5, 1, 2, "B20008 10 01 B20008 10 01 33 B20008 10 02 33 6C 91 54");
        oneRow(100, 6, 99, 0, "B20008 10 63 B20008 10 63 33 B20008 10 00 33 70 91 54");
    }

    @Sentence(promise = 11, says = "what a row doesn't need isn't looked at")
    static void whatARowDoesntNeedIsNotWritten() {
        oneRow(1, 9, Integer.MAX_VALUE, 1, "A70000");
        oneRow(1, 10, 1, Integer.MIN_VALUE, "10 01 B8000E");
        oneRow(1, 11, 1, -1, "10 01 B80011");
        oneRow(1, 12, 1, 999, "10 01 B80014");
    }

    @Sentence(promise = 11, says = "T: to a row of the same member A7 u2 (counted from A7 on)")
    static void jumpsForwardToItselfAndBackward() {
        // ten rows of 3 bytes, from 56 on
        ClassMaker4 x = made(1, 9, 0, 10, 9, 0, 2, 9, 0, 4, 9, 0, 3, 9, 0, 1);
        Setting.sameRows(x, 1, 4, 9, 0, 10);
        Setting.rows(x, 1, 9, 0, 1);
        Check.due("class", x.make(1, 1), 2);
        member(x, 2, 1, 0, "1A AA 0000 00000055 00000001 0000000A"
            + "00000037 0000003A 0000003D 00000040 00000043 00000046 00000049 0000004C 0000004F 00000052"
            + "A7001B A70000 A70003 A7FFFD A7FFF4 A7000C A70009 A70006 A70003 A7FFE5" + "11 000B AC");
    }

    @Sentence(promise = 11, says = "T: to a row of the same member A7 u2 (counted from A7 on)")
    static void jumpsOverTheLongestRows() {
        // rows 2 .. 9 of 20 bytes each
        ClassMaker4 x = Setting.programs(1);
        Setting.rows(x, 1, 8, 0, 10);
        Setting.sameRows(x, 1, 8, 2, 0, 0);
        Setting.rows(x, 1, 8, 0, 1);
        x.make(1, 1);
        int code = methodAt(x, 1, 1, 1) + 22;
        bytes("forward", x, 1, code + 56, "B20008 10 00 33 9A0006 A700A3");
        bytes("backward", x, 1, code + 56 + 12 + 160, "B20008 10 00 33 9A0006 A7FF4B" + "11 000B AC");
    }

    @Sentence(promise = 11, says = "else 11 u2 (the row) AC")
    static void jumpsAcrossTheEdgesOfMembers() {
        // rows 1 .. 9 go to 11, row 10 to 11, 11 to 10, 12 to 20, 13 to 21, the others to 12
        ClassMaker4 x = Setting.programs(1);
        Setting.sameRows(x, 1, 10, 9, 0, 11);
        Setting.rows(x, 1, 9, 0, 10, 9, 0, 20, 9, 0, 21);
        Setting.sameRows(x, 1, 7, 9, 0, 12);
        Setting.rows(x, 1, 9, 0, 1);
        x.make(1, 1);
        member(x, 1, 3, 0, "1A AA 0000 0000005F 00000001 0000000A"
            + "00000037 0000003B 0000003F 00000043 00000047 0000004B 0000004F 00000053 00000057 0000005B"
            + "11 000B AC".repeat(11));
        member(x, 1, 3, 1, "1A AA 0000 00000057 0000000B 00000014"
            + "00000037 0000003B 0000003E 00000042 00000045 00000048 0000004B 0000004E 00000051 00000054"
            + "11 000A AC" + "A70019" + "11 0015 AC" + "A7FFF9 A7FFF6 A7FFF3 A7FFF0 A7FFED A7FFEA A7FFE7" + "11 0015 AC");
        member(x, 1, 3, 2, "1A AA 0000 00000017 00000015 00000015 00000013" + "11 0001 AC" + "11 0016 AC");
    }

    @Sentence(promise = 11, says = "else 11 u2 (the row) AC")
    static void jumpsBeyondTheLastRow() {
        oneRow(1, 9, 0, 1, "A70000");
        oneRow(1, 9, 0, 2, "11 0002 AC");
        oneRow(1, 9, 0, 10, "11 000A AC");
        oneRow(1, 9, 0, 61, "11 003D AC");
    }

    @Sentence(promise = 11, says = "8 X 9A u2 (3 + the length of T) T")
    static void bothLengthsOfT() {
        oneRow(100, 8, 99, 1, "B20008 10 63 33 9A0006 A7FFF7");
        oneRow(100, 8, 0, 2, "B20008 10 00 33 9A0007 11 0002 AC");
        oneRow(100, 8, 0, 61, "B20008 10 00 33 9A0007 11 003D AC");
    }
}
