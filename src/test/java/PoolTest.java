/** The rules of the pool, 9 to 14. */
public final class PoolTest {
    private static final Check check = new Check();
    private static final String ANY_DIMENSIONS = "[".repeat(255);

    public static void main(String[] args) {
        ownIndexes();
        indexesOfNamedEntries();
        classTexts();
        namesWithTypes();
        members();
        handles();
        types();
        firstEntryDecides();
        check.end();
    }

    private static void broken(String what, Maker maker, int rule, int k) {
        byte[] bytes = maker.bytes();
        check.wrong(what, bytes, rule, maker.entryAt[k]);
    }

    /** Entries in their raw form, with an index in each of their places that is none of the right kind. */
    private static void ownIndexes() {
        for (int tag : new int[] {7, 8, 16, 19, 20}) {
            for (int index : new int[] {0, 2, 65535}) {
                Maker maker = new Maker(61);
                int k = maker.entry(Maker.u1(tag), Maker.u2(index));
                broken("tag " + tag + " to " + index, maker, 9, k);
            }
        }
        for (int tag : new int[] {9, 10, 11, 12, 17, 18}) {
            for (int place = 0; place < 2; place++) {
                for (int index : new int[] {0, 500, 2, 1, -1}) {
                    if (tag >= 17 && place == 0 || place == 0 && tag < 12 && index == 2 || tag == 12 && index == 1) {
                        continue;
                    }
                    Maker maker = new Maker(61);
                    int second = maker.wide(5, 0) + 1;
                    String type = tag == 9 || tag == 17 ? "I" : "()V";
                    int pair = maker.pair("n", type);
                    int[] right = tag == 12 ? new int[] {maker.text("n"), maker.text(type)}
                            : new int[] {tag >= 17 ? 0 : maker.type("B"), pair};
                    right[place] = index < 0 ? second : index;
                    int k = maker.entry(Maker.u1(tag), Maker.u2(right));
                    broken("tag " + tag + " place " + place + " to " + index, maker, 9, k);
                }
            }
        }
        for (int index : new int[] {0, 500, -1}) {
            Maker maker = new Maker(61);
            int second = maker.wide(6, 0) + 1;
            int k = maker.entry(Maker.u1(15, 0), Maker.u2(index < 0 ? second : index));
            broken("handle to " + index, maker, 9, k);
        }
    }

    private static void indexesOfNamedEntries() {
        for (int tag : new int[] {9, 10, 11}) {
            Maker maker = new Maker(61);
            int pair = maker.pair("n", tag == 9 ? "I" : "()V");
            int k = maker.entry(Maker.u1(tag), Maker.u2(maker.entries.size() + 1, pair));
            maker.entry(Maker.u1(7), Maker.u2(0));
            broken("the class of " + tag, maker, 9, k);

            maker = new Maker(61);
            k = maker.entry(Maker.u1(tag), Maker.u2(maker.thisClass, maker.entries.size() + 1));
            maker.entry(Maker.u1(12), Maker.u2(maker.thisClass, 1));
            broken("the name of " + tag, maker, 9, k);

            maker = new Maker(61);
            k = maker.entry(Maker.u1(15, 99), Maker.u2(maker.entries.size() + 1));
            maker.entry(Maker.u1(tag), Maker.u2(maker.thisClass, maker.entries.size() + 1));
            maker.entry(Maker.u1(12), Maker.u2(1, maker.thisClass));
            broken("a handle by its member's type " + tag, maker, 9, k);

            maker = new Maker(61);
            k = maker.entry(Maker.u1(15, 1), Maker.u2(maker.entries.size() + 1));
            maker.entry(Maker.u1(tag), Maker.u2(maker.entries.size() + 1, maker.entries.size() + 1));
            maker.entry(Maker.u1(7), Maker.u2(1));
            broken("a handle by its member's own index " + tag, maker, 9, k);

            maker = new Maker(61);
            k = maker.entry(Maker.u1(15, 1), Maker.u2(maker.entries.size() + 2));
            int pairAt = maker.entry(Maker.u1(12), Maker.u2(1, 1));
            maker.entry(Maker.u1(tag), Maker.u2(maker.entries.size() + 1, pairAt));
            maker.entry(Maker.u1(7), Maker.u2(500));
            broken("a handle by its member's class " + tag, maker, 9, k);
        }
        for (int tag : new int[] {17, 18}) {
            Maker maker = new Maker(61);
            int k = maker.entry(Maker.u1(tag), Maker.u2(0, maker.entries.size() + 1));
            maker.entry(Maker.u1(12), Maker.u2(1, 0));
            broken("the type of " + tag, maker, 9, k);
        }
        Maker maker = new Maker(61);
        int k = maker.entry(Maker.u1(15, 1), Maker.u2(maker.entries.size() + 1));
        maker.entry(Maker.u1(8), Maker.u2(0));
        broken("a handle's string is not looked into", maker, 13, k);
    }

    private static void classTexts() {
        String[] right = {"B", "a/b/C", "<x>", "a-b/ ", "I", "(", ")V", "[I", "[La/B;", "[[Z", "\u0101/\uffff",
            ANY_DIMENSIONS + "J", ANY_DIMENSIONS + "LB;"};
        for (String text : right) {
            Maker maker = new Maker(45);
            maker.type(text);
            check.kept("class " + text, maker);
        }
        String[] wrong = {"", "/", "/a", "a/", "a//b", "a.b", "a;", ";", "a[", "La;", "a[]", "[", "[]", "[V", "[B[",
            "[L;", "[LB", "[LB;;", "[LB;x", "[La//b;", "[L/a;", "[La/;", "[La.b;", "[L[a;", "[II", "[B;", "[()V",
            "[" + ANY_DIMENSIONS + "J", ANY_DIMENSIONS, "[ "};
        for (String text : wrong) {
            Maker maker = new Maker(61);
            int k = maker.type(text);
            broken("class " + text, maker, 10, k);
        }
    }

    private static void namesWithTypes() {
        String longest = "(" + "J".repeat(127) + "I)V";
        String[][] right = {{"n", "I"}, {"<n", "()V"}, {">", "LA;"}, {"<init>", "I"}, {"<clinit>", "(I)J"}, {" ", "[D"},
            {"n", longest}, {"n", "(" + "[J".repeat(255) + ")[[LA;"}, {"n", "(LJ;[LA;ZBCSFD)D"},
            {"n", ANY_DIMENSIONS + "B"}, {"n", "(" + ANY_DIMENSIONS + "B)" + ANY_DIMENSIONS + "B"}};
        for (String[] one : right) {
            Maker maker = new Maker(61);
            maker.pair(one[0], one[1]);
            check.kept("pair " + one[0] + " " + one[1], maker);
        }
        String[][] wrong = {{"", "I"}, {"a.b", "I"}, {"a;", "I"}, {"[", "I"}, {"a/b", "()V"}, {"n", ""}, {"n", "V"},
            {"n", "II"}, {"n", "L"}, {"n", "LA"}, {"n", "L;"}, {"n", "("}, {"n", "()"}, {"n", "(V)V"}, {"n", "()VV"},
            {"n", "()II"}, {"n", "(I"}, {"n", "(IV"}, {"n", "(L)V"}, {"n", ")V"}, {"n", "()[V"}, {"n", "(()V)V"}, {"n", "()["},
            {"n", "(" + "J".repeat(128) + ")V"}, {"n", "(" + "D".repeat(127) + "II)V"}, {"n", "(" + "I".repeat(256) + ")V"},
            {"n", "[" + ANY_DIMENSIONS + "B"}, {"n", "([" + ANY_DIMENSIONS + "B)V"}, {"n", "()[" + ANY_DIMENSIONS + "B"},
            {"n", "i"}, {"n", "(I)"}, {"n", "A"}, {"n", "I "}, {"n", " I"}, {"n", "()LA"}, {"n", "()LA;;"}, {"n", "()La.b;"}};
        for (String[] one : wrong) {
            Maker maker = new Maker(61);
            int k = maker.pair(one[0], one[1]);
            broken("pair " + one[0] + " " + one[1], maker, 11, k);
        }
    }

    private static void members() {
        String[][] right = {{"9", "n", "I"}, {"9", "<init>", "[I"}, {"10", "n", "()I"}, {"10", "<init>", "()V"},
            {"10", "<init>", "(IJ)V"}, {"11", "n", "()V"}};
        for (String[] one : right) {
            Maker maker = new Maker(45);
            maker.ref(Integer.parseInt(one[0]), "[LB;", one[1], one[2]);
            check.kept("ref " + String.join(" ", one), maker);
        }
        Maker between = new Maker(61);
        between.text("<init>");
        between.text("n");
        between.text("<clinit>");
        between.ref(10, "B", "n", "()V");
        check.kept("a name between others that have < and >", between);
        String[][] wrong = {{"9", "n", "()V"}, {"10", "n", "I"}, {"11", "n", "I"}, {"10", "<init>", "()I"}, {"10", "<init>", "I"},
            {"10", "<clinit>", "()V"}, {"10", "a<", "()V"}, {"10", ">", "()V"}, {"10", "<init>x", "()V"},
            {"11", "<init>", "()V"}, {"11", "<clinit>", "()V"}, {"11", "a>b", "()V"}};
        for (String[] one : wrong) {
            Maker maker = new Maker(61);
            int k = maker.ref(Integer.parseInt(one[0]), "B", one[1], one[2]);
            broken("ref " + String.join(" ", one), maker, 12, k);
        }
        Maker maker = new Maker(61);
        int k = maker.entry(Maker.u1(9), Maker.u2(maker.thisClass, maker.entries.size() + 1));
        int pair = maker.entry(Maker.u1(12), Maker.u2(maker.entries.size() + 1, maker.entries.size() + 2));
        maker.textAgain("a.b");
        maker.textAgain("I");
        broken("a field's name is the pair's own", maker, 11, pair);
        maker.entries.set(maker.entries.size() - 1, Maker.utf8("Q"));
        broken("its type is the field's too", maker, 12, k);
    }

    private static void handles() {
        String[][] named = {{"9", "n", "I"}, {"10", "n", "()V"}, {"10", "<init>", "()V"}, {"11", "n", "()V"}};
        for (int kind = 0; kind <= 10; kind++) {
            for (int major = 51; major <= 52; major++) {
                for (int i = 0; i < named.length; i++) {
                    Maker maker = new Maker(major);
                    int ref = maker.ref(Integer.parseInt(named[i][0]), "B", named[i][1], named[i][2]);
                    int k = maker.handle(kind, ref);
                    boolean isRight = kind >= 1 && kind <= 4 && i == 0
                            || kind >= 5 && kind <= 7 && i == 1
                            || kind >= 6 && kind <= 7 && i == 3 && major >= 52
                            || kind == 8 && i == 2
                            || kind == 9 && i == 3;
                    String what = "handle " + kind + " of " + i + " in " + major;
                    if (isRight) {
                        check.kept(what, maker);
                    } else {
                        broken(what, maker, 13, k);
                    }
                }
                Maker maker = new Maker(major);
                int k = maker.handle(kind, 1);
                broken("handle " + kind + " of a text", maker, 13, k);
            }
        }
    }

    private static void types() {
        Maker maker = new Maker(61);
        maker.methodType("(J)V");
        check.kept("method type", maker);
        for (String text : new String[] {"I", "", "()"}) {
            maker = new Maker(61);
            int k = maker.methodType(text);
            broken("method type " + text, maker, 14, k);
        }
        String[][] wrong = {{"17", "n", "()V"}, {"17", "n<", "I"}, {"17", "<init>", "I"}, {"18", "n", "I"}, {"18", ">n", "()V"},
            {"18", "<init>", "()V"}};
        for (String[] one : wrong) {
            maker = new Maker(61);
            int k = maker.dynamic(Integer.parseInt(one[0]), 0, one[1], one[2]);
            broken("dynamic " + String.join(" ", one), maker, 14, k);
        }
        maker = new Maker(61);
        maker.entry(Maker.u1(19), Maker.u2(maker.text("[;.")));
        maker.entry(Maker.u1(20), Maker.u2(maker.text("")));
        check.kept("a module's and a package's text are not looked at", maker);
    }

    private static void firstEntryDecides() {
        Maker maker = new Maker(61);
        int first = maker.type("a.b");
        maker.entry(Maker.u1(7), Maker.u2(0));
        broken("10 of an earlier entry", maker, 10, first);
        maker = new Maker(61);
        first = maker.entry(Maker.u1(7), Maker.u2(0));
        maker.type("a.b");
        broken("9 of an earlier entry", maker, 9, first);
        maker.flags = 32768;
        maker.thisClass = 0;
        broken("the pool before the class", maker, 9, first);
        maker = new Maker(61);
        maker.entries.set(1, Maker.join(Maker.u1(8), Maker.u2(2)));
        broken("the very first entry", maker, 9, 1);
    }
}
