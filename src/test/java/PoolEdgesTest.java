import java.util.Arrays;

/** Part 2 of the document's terms, THE POOL: a test for each of its sentences, on both sides of the boundary in it. */
public final class PoolEdgesTest {
    private static final Check check = new Check();

    public static void main(String[] args) {
        entriesRising();
        veryFirstEntry();
        ownIndex();
        indexOfNamedEntry();
        indexBehindHandle();
        handleOfNoMember();
        classNames();
        classArrays();
        dimensions();
        unqualifiedNames();
        angleBracketsInPairs();
        descriptors();
        argumentPlaces();
        fieldRefs();
        methodRefs();
        namesOfMethodRefs();
        initWithResult();
        handleKinds();
        handlesOfInterfaceMethods();
        handlesAndInit();
        methodTypes();
        dynamics();
        namesOfDynamics();
        check.end();
    }

    private static void judged(String what, Maker maker, boolean isRight, int rule, int k) {
        check.judged(what, maker, isRight, rule, made -> made.entryAt[k]);
    }

    /** "entries rising, PLACE always the entry's tag": of two that are wrong the first decides, by whatever rule. */
    private static void entriesRising() {
        byte[][] wrong = {
            Maker.join(Maker.u1(7), Maker.u2(0)),
            Maker.join(Maker.u1(7), Maker.u2(5)),
            Maker.join(Maker.u1(12), Maker.u2(5, 5)),
            Maker.join(Maker.u1(16), Maker.u2(5)),
            Maker.join(Maker.u1(15, 0), Maker.u2(5)),
        };
        int[] rules = {9, 10, 11, 14, 13};
        for (int i = 0; i < wrong.length; i++) {
            for (int j = 0; j < wrong.length; j++) {
                Maker maker = new Maker(61);
                maker.text("a.b");
                maker.entry(wrong[i]);
                maker.entry(wrong[j]);
                judged("first " + i + " then " + j, maker, false, rules[i], 6);
            }
        }
    }

    /** Entry 1 is one of them. */
    private static void veryFirstEntry() {
        Maker maker = new Maker(61);
        maker.thisClass = 4;
        maker.entries.set(2, Maker.utf8("B"));
        maker.entries.set(1, Maker.join(Maker.u1(7), Maker.u2(2)));
        judged("a class", maker, true, 9, 1);
        maker.entries.set(1, Maker.join(Maker.u1(7), Maker.u2(4)));
        judged("of what is no text", maker, false, 9, 1);
    }

    /** The raw form of an entry with these items. */
    private static byte[] raw(int tag, int first, int second) {
        return switch (tag) {
            case 7, 8, 16, 19, 20 -> Maker.join(Maker.u1(tag), Maker.u2(first));
            case 15 -> Maker.join(Maker.u1(tag, first), Maker.u2(second));
            default -> Maker.join(Maker.u1(tag), Maker.u2(first, second));
        };
    }

    /**
     * "9 an index (its own ..) to what is no entry (0, a second place, too great), or one of another kind than 4.4
     * wants there": the right one is the pool's last entry, so that the next number is too great.
     */
    private static void ownIndex() {
        int[][] places = {{7, 1, 1}, {8, 1, 1}, {16, 1, 1}, {19, 1, 1}, {20, 1, 1}, {9, 1, 7}, {10, 1, 7}, {11, 1, 7}, {9, 2, 12},
            {10, 2, 12}, {11, 2, 12}, {12, 1, 1}, {12, 2, 1}, {17, 2, 12}, {18, 2, 12}};
        for (int[] place : places) {
            Maker maker = new Maker(61);
            int[] others = oneOfEach(maker, place[2]);
            int handle = maker.handle(6, maker.ref(10, "B", "m", "()V"));
            maker.attributes.add(maker.attribute("BootstrapMethods", Maker.u2(1, handle, 0)));
            boolean isField = place[0] == 9 || place[0] == 17;
            String type = isField ? "I" : "()V";
            int first = place[0] == 12 ? maker.text("n") : place[0] >= 17 ? 0 : maker.type("B");
            int second = place[0] == 12 ? maker.text(type) : maker.pair("n", type);
            int k = maker.entry(raw(place[0], first, second));
            int last = maker.entry(switch (place[2]) {
                case 7 -> Maker.join(Maker.u1(7), Maker.u2(maker.text("B")));
                case 12 -> Maker.join(Maker.u1(12), Maker.u2(maker.text("n"), maker.text(type)));
                default -> Maker.utf8(place[0] == 16 || place[0] == 12 && place[1] == 2 ? "()V" : "n");
            });
            String what = "tag " + place[0] + " index " + place[1] + " to ";
            indexIs(maker, k, place, first, second, last);
            judged(what + "the last entry", maker, true, 9, k);
            for (int index : new int[] {0, last + 1, last + 2, 65535}) {
                indexIs(maker, k, place, first, second, index);
                judged(what + index, maker, false, 9, k);
            }
            for (int index : others) {
                indexIs(maker, k, place, first, second, index);
                judged(what + "another kind " + index, maker, false, 9, k);
            }
        }
    }

    private static void indexIs(Maker maker, int k, int[] place, int first, int second, int index) {
        maker.entries.set(k, raw(place[0], place[1] == 1 ? index : first, place[1] == 2 ? index : second));
    }

    /** An entry of each kind but this one, and a Long's second place. */
    private static int[] oneOfEach(Maker maker, int but) {
        int wide = maker.wide(5, 1);
        int ref = maker.ref(10, "B", "m", "()V");
        int[][] all = {{1, 1}, {3, maker.number(1)}, {4, maker.floating(1)}, {5, wide}, {0, wide + 1}, {6, maker.wide(6, 1)},
            {7, maker.type("B")}, {8, maker.string("B")}, {9, maker.ref(9, "B", "f", "I")}, {10, ref},
            {11, maker.ref(11, "B", "m", "()V")}, {12, maker.pair("f", "I")}, {15, maker.handle(6, ref)},
            {16, maker.methodType("()V")}, {17, maker.dynamic(17, 0, "f", "I")}, {18, maker.dynamic(18, 0, "m", "()V")},
            {19, maker.entry(Maker.u1(19), Maker.u2(1))}, {20, maker.entry(Maker.u1(20), Maker.u2(1))}};
        return Arrays.stream(all).filter(one -> one[0] != but).mapToInt(one -> one[1]).toArray();
    }

    /**
     * An entry at 5 that names a member at 6, which names a Class at 7 and a NameAndType at 8, which name texts; entry
     * 12 is a Long, 14 a String, and there are no more.
     */
    private static Maker chain(int outer, int kind, int tag, int[][] links) {
        Maker maker = new Maker(61);
        maker.entry(outer == 0 ? Maker.u1(3, 0, 0, 0, 0) : raw(outer, outer == 15 ? kind : 0, outer == 15 ? 6 : 8));
        maker.entry(tag == 0 ? Maker.u1(4, 0, 0, 0, 0) : raw(tag, links[0][0], links[0][1]));
        maker.entry(Maker.u1(7), Maker.u2(links[1][0]));
        maker.entry(Maker.u1(12), Maker.u2(links[2]));
        maker.entry(Maker.utf8("B"));
        maker.entry(Maker.utf8("n"));
        maker.entry(Maker.utf8(tag == 9 || outer == 17 ? "I" : "()V"));
        maker.wide(5, 1);
        maker.entry(Maker.u1(8), Maker.u2(1));
        int handle = maker.entries.size();
        if (outer >= 17) {
            maker.entry(Maker.u1(15, 6), Maker.u2(handle + 1));
            maker.entry(Maker.u1(10), Maker.u2(2, handle + 2));
            maker.entry(Maker.u1(12), Maker.u2(handle + 3, handle + 4));
            maker.entry(Maker.utf8("n"));
            maker.entry(Maker.utf8("()V"));
            maker.attributes.add(maker.attribute("BootstrapMethods", Maker.u2(1, handle, 0)));
        }
        return maker;
    }

    private static int[][] rightLinks() {
        return new int[][] {{7, 8}, {9, 0}, {10, 11}};
    }

    private static final int[][] LINKS = {{0, 0}, {0, 1}, {1, 0}, {2, 0}, {2, 1}};

    private static void chainIsJudged(String what, int outer, int kind, int tag, int[] link, int k) {
        judged(what + ": right", chain(outer, kind, tag, rightLinks()), true, 0, k);
        for (int index : new int[] {0, 13, 500, 65535, 14, 12}) {
            int[][] links = rightLinks();
            links[link[0]][link[1]] = index;
            judged(what + ": index " + index, chain(outer, kind, tag, links), false, 9, k);
        }
    }

    /** "or of an entry that it names": the entry that comes first has the place, not the one whose index it is. */
    private static void indexOfNamedEntry() {
        for (int tag = 9; tag <= 11; tag++) {
            for (int[] link : LINKS) {
                chainIsJudged("a member " + tag + " link " + link[0] + link[1], 0, 0, tag, link, 6);
            }
        }
        for (int outer = 17; outer <= 18; outer++) {
            chainIsJudged("the name of " + outer, outer, 0, 0, LINKS[3], 5);
            chainIsJudged("the type of " + outer, outer, 0, 0, LINKS[4], 5);
        }
        chainIsJudged("a class alone", 0, 0, 0, LINKS[2], 7);
        chainIsJudged("a pair's name", 0, 0, 0, LINKS[3], 8);
        chainIsJudged("a pair's type", 0, 0, 0, LINKS[4], 8);
    }

    /** "of a MethodHandle's if that is a member, or of one that such a one names"; 9 comes before 13. */
    private static void indexBehindHandle() {
        int[] kinds = {1, 5, 9};
        for (int tag = 9; tag <= 11; tag++) {
            for (int[] link : LINKS) {
                chainIsJudged("a handle of " + tag + " link " + link[0] + link[1], 15, kinds[tag - 9], tag, link, 5);
            }
            judged("a kind that is none", chain(15, 10, tag, rightLinks()), false, 13, 5);
            int[][] links = rightLinks();
            links[2][1] = 0;
            judged("9 before 13", chain(15, 10, tag, links), false, 9, 5);
        }
        for (int index : new int[] {0, 500, 65535}) {
            Maker maker = new Maker(61);
            int k = maker.handle(10, index);
            judged("9 of its own index before 13", maker, false, 9, k);
        }
        Maker second = new Maker(61);
        int wide = second.wide(6, 0);
        int k = second.handle(1, wide + 1);
        judged("a second place", second, false, 9, k);
    }

    /** "(of a MethodHandle's: 13)": another kind is 13, and its indexes are its own. */
    private static void handleOfNoMember() {
        byte[][] named = {Maker.utf8("t"), Maker.u1(3, 0, 0, 0, 0), Maker.u1(4, 0, 0, 0, 0), Maker.join(Maker.u1(7), Maker.u2(0)),
            Maker.join(Maker.u1(8), Maker.u2(0)), Maker.join(Maker.u1(12), Maker.u2(0, 0)), Maker.join(Maker.u1(15, 1), Maker.u2(0)),
            Maker.join(Maker.u1(16), Maker.u2(0)), Maker.join(Maker.u1(17), Maker.u2(0, 0)), Maker.join(Maker.u1(18), Maker.u2(0, 0)),
            Maker.join(Maker.u1(19), Maker.u2(0)), Maker.join(Maker.u1(20), Maker.u2(0))};
        for (byte[] one : named) {
            for (int kind = 1; kind <= 9; kind++) {
                Maker maker = new Maker(61);
                int k = maker.handle(kind, maker.entries.size() + 1);
                maker.entry(one);
                judged("kind " + kind + " of tag " + one[0], maker, false, 13, k);
            }
        }
        Maker itself = new Maker(61);
        int k = itself.handle(6, itself.entries.size());
        judged("a handle of itself", itself, false, 13, k);
    }

    private static void className(String text, boolean isRight) {
        Maker maker = new Maker(61);
        int k = maker.type(text);
        judged("class " + text, maker, isRight, 10, k);
    }

    /** "10 a Class entry whose text is neither a NAME ..". */
    private static void classNames() {
        className("", false);
        className("B", true);
        className("b/B", true);
        className("/", false);
        className("/B", false);
        className("B/", false);
        className("b//B", false);
        className("b/c/", false);
        for (String c : new String[] {".", ";", "["}) {
            for (String text : new String[] {c, c + "b", "b" + c + "B", "B" + c, "b/" + c, "b/B" + c, "b" + c + "/B"}) {
                className(text, false);
            }
        }
        for (String c : new String[] {"<", ">", "(", ")", ":", " ", "\u0000", "]", "\ud800", "\uffff", "L", "I"}) {
            for (String text : new String[] {c, c + "B", "b" + c + "B", "B" + c, "b/" + c}) {
                className(text, true);
            }
        }
        className("LB;", false);
        className("()V", true);
    }

    /** ".. nor an array's descriptor". */
    private static void classArrays() {
        for (char c = 1; c < 128; c++) {
            className("[" + c, "BCDFIJSZ".indexOf(c) >= 0);
        }
        for (String right : new String[] {"[LB;", "[Lb/B;", "[[I", "[L<;", "[LL;", "[[LI;"}) {
            className(right, true);
        }
        for (String wrong : new String[] {"[", "[[", "[L", "[LB", "[L;", "[L/;", "[Lb/;", "[L/b;", "[Lb.B;", "[L[B;", "[LB;;",
            "[LB;I", "[II", "[I[", "[()V", "[V", "[LB;/", "I[", "[I;"}) {
            className(wrong, false);
        }
    }

    /** "(at most 255 dimensions)". */
    private static void dimensions() {
        for (String type : new String[] {"I", "J", "LB;"}) {
            for (int number : new int[] {1, 254, 255, 256, 257, 300}) {
                className("[".repeat(number) + type, number <= 255);
            }
        }
    }

    private static void pair(String name, String type, boolean isRight) {
        Maker maker = new Maker(61);
        int k = maker.pair(name, type);
        judged("pair " + name + " " + type, maker, isRight, 11, k);
    }

    /** "11 a NameAndType whose name is no unqualified name (4.2.2 ..)". */
    private static void unqualifiedNames() {
        pair("", "I", false);
        pair("n", "I", true);
        for (String c : new String[] {".", ";", "[", "/"}) {
            for (String name : new String[] {c, c + "n", "n" + c, "n" + c + "n"}) {
                pair(name, "I", false);
                pair(name, "()V", false);
            }
        }
        for (String c : new String[] {"(", ")", "]", ":", ",", "-", " ", "\u0000", "\ud800", "\uffff"}) {
            for (String name : new String[] {c, c + "n", "n" + c, "n" + c + "n"}) {
                pair(name, "I", true);
            }
        }
    }

    /** "(.. < and > allowed)". */
    private static void angleBracketsInPairs() {
        for (String name : new String[] {"<", ">", "<>", "<init>", "<clinit>", "a<b", "a>", "<init"}) {
            pair(name, "I", true);
            pair(name, "()V", true);
            pair(name, "()I", true);
        }
    }

    /** "or whose descriptor is neither a field's nor a method's (4.3 ..)". */
    private static void descriptors() {
        for (char c = 1; c < 128; c++) {
            boolean isType = "BCDFIJSZ".indexOf(c) >= 0;
            pair("n", "" + c, isType);
            pair("n", "(" + c + ")V", isType);
            pair("n", "()" + c, isType || c == 'V');
            pair("n", "[" + c, isType);
            pair("n", "()[" + c, isType);
        }
        for (String right : new String[] {"LB;", "Lb/B;", "[LB;", "()LB;", "(LB;LB;)LB;", "([[I[J)[[D", "(LV;)V", "(L(;)V", "(L);)V",
            "()L);", "L(;"}) {
            pair("n", right, true);
        }
        for (String wrong : new String[] {"", "L", "L;", "LB", "LB;;", "LB;I", "Lb//B;", "L/B;", "LB/;", "Lb.B;", "L[B;", "II", "V", "[V",
            "(", ")", "()", "(I", "(I)", "I)V", "()VV", "()IV", "()VI", "(V)V", "(IV)I", "((I)V", "()(", "()()V", "(LB)V", "([)V",
            "(L;)V", "()L", "()L;", "() V", "( )V", "()V ", "(I,I)V", "(LB;;)V", ")(", "()V;"}) {
            pair("n", wrong, false);
        }
    }

    /** "with more than 255 places of arguments, two of long and double, it is none". */
    private static void argumentPlaces() {
        String[] ones = {"I", "B", "F", "LB;", "[J", "[[D"};
        for (String one : ones) {
            pair("n", "(" + one.repeat(254) + ")V", true);
            pair("n", "(" + one.repeat(255) + ")V", true);
            pair("n", "(" + one.repeat(256) + ")V", false);
            pair("n", "(" + one.repeat(257) + ")V", false);
            pair("n", "(" + one.repeat(255) + "V", false);
            pair("n", "(" + one.repeat(256) + "V", false);
        }
        for (String two : new String[] {"J", "D"}) {
            pair("n", "(" + two.repeat(127) + ")V", true);
            pair("n", "(" + two.repeat(127) + "I)V", true);
            pair("n", "(I" + two.repeat(127) + ")J", true);
            pair("n", "(" + two.repeat(128) + ")V", false);
            pair("n", "(" + two.repeat(127) + "II)V", false);
            pair("n", "(I" + two.repeat(127) + "I)V", false);
        }
    }

    private static void ref(int tag, String name, String type, boolean isRight) {
        Maker maker = new Maker(61);
        int k = maker.ref(tag, "B", name, type);
        judged("ref " + tag + " " + name + " " + type, maker, isRight, 12, k);
    }

    /** A member before its pair and its texts, so that its own rule is looked at before theirs. */
    private static Maker earlyRef(int tag, String name, String type) {
        Maker maker = new Maker(61);
        maker.entry(Maker.u1(tag), Maker.u2(2, 6));
        maker.entry(Maker.u1(12), Maker.u2(7, 8));
        maker.entry(Maker.utf8(name));
        maker.entry(Maker.utf8(type));
        return maker;
    }

    /** "12 a Fieldref whose descriptor is no field's": nothing is said of its name. */
    private static void fieldRefs() {
        for (String name : new String[] {"f", "<init>", "<", ">"}) {
            ref(9, name, "I", true);
            ref(9, name, "[LB;", true);
            ref(9, name, "()V", false);
            ref(9, name, "()I", false);
        }
        for (String type : new String[] {"", "V", "Q", "II"}) {
            judged("a descriptor that is none " + type, earlyRef(9, "f", type), false, 12, 5);
        }
        judged("a name that is none is the pair's", earlyRef(9, "a.b", "I"), false, 11, 6);
    }

    /** "a Methodref or InterfaceMethodref whose descriptor is no method's". */
    private static void methodRefs() {
        for (int tag = 10; tag <= 11; tag++) {
            ref(tag, "m", "()V", true);
            ref(tag, "m", "(I)J", true);
            ref(tag, "m", "I", false);
            ref(tag, "m", "[I", false);
            ref(tag, "m", "(" + "I".repeat(255) + ")V", true);
            judged("too many places", earlyRef(tag, "m", "(" + "I".repeat(256) + ")V"), false, 12, 5);
            judged("a descriptor that is none", earlyRef(tag, "m", "()"), false, 12, 5);
            judged("a name that is none is the pair's", earlyRef(tag, "a/b", "()V"), false, 11, 6);
            judged("no name is the pair's", earlyRef(tag, "", "()V"), false, 11, 6);
        }
    }

    /** "or whose name has < or >, but <init> in a Methodref ..". */
    private static void namesOfMethodRefs() {
        for (int tag = 10; tag <= 11; tag++) {
            for (String name : new String[] {"<", ">", "<m", "m>", "a<b", "a>b", "<clinit>", "<init", "init>", "<init>x", "x<init>",
                "<Init>", "<init>>"}) {
                ref(tag, name, "()V", false);
            }
            ref(tag, "init", "()V", true);
            ref(tag, "<init>", "()V", tag == 10);
        }
        Maker maker = new Maker(61);
        maker.text("<before>");
        maker.text("m");
        maker.text("<behind>");
        maker.ref(10, "B", "m", "()V");
        maker.ref(11, "B", "m", "()V");
        check.kept("a name's own characters alone", maker);
    }

    /** ".. with a descriptor that ends in V". */
    private static void initWithResult() {
        ref(10, "<init>", "(IJLV;)V", true);
        for (String type : new String[] {"()I", "()J", "()LV;", "()[I", "(LV;)LV;"}) {
            ref(10, "<init>", type, false);
            ref(10, "m", type, true);
        }
    }

    private static void handle(int major, int kind, int tag, String name, boolean isRight) {
        Maker maker = new Maker(major);
        int k = maker.handle(kind, maker.entries.size() + 1);
        maker.entry(Maker.u1(tag), Maker.u2(2, maker.entries.size() + 1));
        maker.entry(Maker.u1(12), Maker.u2(maker.entries.size() + 1, maker.entries.size() + 2));
        maker.entry(Maker.utf8(name));
        maker.entry(Maker.utf8(tag == 9 ? "I" : "()V"));
        judged("handle " + kind + " of " + tag + " " + name + " in " + major, maker, isRight, 13, k);
    }

    /** "13 a MethodHandle whose kind is not 1 to 9, whose entry is not: for 1 to 4 a Fieldref, 5 and 8 a Methodref ..". */
    private static void handleKinds() {
        for (int kind = 0; kind < 256; kind++) {
            handle(61, kind, 9, "n", kind >= 1 && kind <= 4);
            handle(61, kind, 10, "n", kind >= 5 && kind <= 7);
            handle(61, kind, 10, "<init>", kind == 8);
            handle(61, kind, 11, "n", kind == 6 || kind == 7 || kind == 9);
        }
    }

    /** "6 and 7 a Methodref, or from version 52 on an InterfaceMethodref, 9 an InterfaceMethodref". */
    private static void handlesOfInterfaceMethods() {
        for (int major = 51; major <= 61; major++) {
            for (int kind = 5; kind <= 9; kind++) {
                handle(major, kind, 11, "n", kind == 9 || kind >= 6 && kind <= 7 && major >= 52);
                handle(major, kind, 10, "n", kind <= 7);
            }
        }
    }

    /** "or, for 5, 6, 7 and 9, whose name is <init>, or for 8 is not". */
    private static void handlesAndInit() {
        for (int kind = 5; kind <= 9; kind++) {
            handle(61, kind, 10, "<init>", kind == 8);
            handle(61, kind, 10, "init", kind <= 7);
        }
        for (int kind : new int[] {6, 7, 9}) {
            handle(61, kind, 11, "<init>", false);
        }
        for (int kind = 1; kind <= 4; kind++) {
            handle(61, kind, 9, "<init>", true);
        }
    }

    /** "14 a MethodType whose text is no method's descriptor". */
    private static void methodTypes() {
        String[] right = {"()V", "(I)J", "(" + "I".repeat(255) + ")V", "()" + "[".repeat(255) + "I"};
        String[] wrong = {"", "I", "LB;", "[I", "V", "()", "(V)V", "(" + "I".repeat(256) + ")V", "()" + "[".repeat(256) + "I"};
        for (String text : right) {
            Maker maker = new Maker(51);
            int k = maker.methodType(text);
            judged("method type " + text, maker, true, 14, k);
        }
        for (String text : wrong) {
            Maker maker = new Maker(51);
            int k = maker.methodType(text);
            judged("method type " + text, maker, false, 14, k);
        }
    }

    private static void dynamic(int tag, String name, String type, int rule, int k) {
        Maker maker = new Maker(61);
        maker.entry(Maker.u1(tag), Maker.u2(0, 6));
        maker.entry(Maker.u1(12), Maker.u2(7, 8));
        maker.entry(Maker.utf8(name));
        maker.entry(Maker.utf8(type));
        int handle = maker.handle(6, maker.ref(10, "B", "m", "()V"));
        maker.attributes.add(maker.attribute("BootstrapMethods", Maker.u2(1, handle, 0)));
        judged("dynamic " + tag + " " + name + " " + type, maker, rule == 0, rule, k);
    }

    /** "a Dynamic with a descriptor that is no field's, an InvokeDynamic with one that is no method's". */
    private static void dynamics() {
        for (String type : new String[] {"I", "J", "LB;", "[".repeat(255) + "I"}) {
            dynamic(17, "n", type, 0, 5);
            dynamic(18, "n", type, 14, 5);
        }
        for (String type : new String[] {"()V", "(J)I", "(" + "I".repeat(255) + ")V"}) {
            dynamic(17, "n", type, 14, 5);
            dynamic(18, "n", type, 0, 5);
        }
        for (String type : new String[] {"", "V", "()", "[".repeat(256) + "I", "(" + "I".repeat(256) + ")V"}) {
            dynamic(17, "n", type, 14, 5);
            dynamic(18, "n", type, 14, 5);
        }
    }

    /** "either with a name that has < or >": what else is wrong with the name is its pair's. */
    private static void namesOfDynamics() {
        for (int tag = 17; tag <= 18; tag++) {
            String type = tag == 17 ? "I" : "()V";
            for (String name : new String[] {"<", ">", "<init>", "<clinit>", "n<", ">n", "a<b"}) {
                dynamic(tag, name, type, 14, 5);
            }
            dynamic(tag, "init", type, 0, 5);
            dynamic(tag, "", type, 11, 6);
            dynamic(tag, "a.b", type, 11, 6);
        }
    }
}
