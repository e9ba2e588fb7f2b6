/** Promises 6 to 14: what is told of a class that is kept. */
public final class LookTest {
    private static final Check check = new Check();
    private static final int LOWEST = Integer.MIN_VALUE;
    private static final int GREATEST = Integer.MAX_VALUE;

    public static void main(String[] args) {
        counts();
        entries();
        bits();
        characters();
        places();
        fields();
        methods();
        finding();
        rows();
        bootstraps();
        refusals(new ClassGate());
        refusals(check.kept("a class", new Maker(61)));
        check.end();
    }

    private static void counts() {
        Maker maker = new Maker(55);
        maker.flags = 4097;
        maker.minor = 3;
        maker.wide(5, 1);
        maker.interfaces.add(maker.type("I"));
        maker.field(1, "f", "I");
        maker.field(1, "g", "I");
        maker.method(257, "m", "()V");
        ClassGate gate = check.kept("counts", maker);
        int characters = 1 + 16 + 1 + 1 + 1 + 1 + 3;
        int[] due = {maker.entries.size(), 2, 1, 1, 0, 0, 4097, 55, 3, maker.thisClass, maker.superClass, characters, 0, 0, 0, -1};
        for (int what = 0; what < due.length; what++) {
            check.due("count " + what, gate.count(what), due[what]);
        }
    }

    private static void entries() {
        Maker maker = new Maker(61);
        int[][] due = {
            {maker.text("t"), 1, 0, 0},
            {maker.number(5), 3, 0, 0},
            {maker.floating(5), 4, 0, 0},
            {maker.wide(5, -1), 5, 0, 0},
            {maker.wide(6, -1), 6, 0, 0},
            {maker.type("B"), 7, maker.text("B"), 0},
            {maker.string("t"), 8, maker.text("t"), 0},
            {maker.ref(9, "B", "f", "I"), 9, maker.type("B"), maker.pair("f", "I")},
            {maker.ref(10, "B", "m", "()V"), 10, maker.type("B"), maker.pair("m", "()V")},
            {maker.ref(11, "B", "m", "()V"), 11, maker.type("B"), maker.pair("m", "()V")},
            {maker.pair("f", "I"), 12, maker.text("f"), maker.text("I")},
            {maker.handle(9, maker.ref(11, "B", "m", "()V")), 15, 9, maker.ref(11, "B", "m", "()V")},
            {maker.methodType("()V"), 16, maker.text("()V"), 0},
            {maker.dynamic(17, 1, "f", "I"), 17, 1, maker.pair("f", "I")},
            {maker.dynamic(18, 1, "m", "()V"), 18, 1, maker.pair("m", "()V")},
            {maker.entry(Maker.u1(19), Maker.u2(maker.text("t"))), 19, maker.text("t"), 0},
            {maker.entry(Maker.u1(20), Maker.u2(maker.text("t"))), 20, maker.text("t"), 0},
        };
        int handle = maker.handle(9, maker.ref(11, "B", "m", "()V"));
        maker.attributes.add(maker.attribute("BootstrapMethods", Maker.u2(2, handle, 0, handle, 0)));
        ClassGate gate = check.kept("entries", maker);
        for (int[] one : due) {
            for (int part = 0; part < 3; part++) {
                check.due("entry " + one[0] + " part " + part, gate.entry(one[0], part), one[part + 1]);
            }
        }
        for (int part = 0; part < 3; part++) {
            check.due("entry 0", gate.entry(0, part), 0);
            check.due("a second place", gate.entry(maker.wideAt() + 1, part), 0);
            check.due("last entry", gate.entry(maker.entries.size() - 1, 0), 1);
            for (int k : new int[] {-1, maker.entries.size(), LOWEST, GREATEST}) {
                check.due("no entry " + k, gate.entry(k, part), -1);
            }
        }
    }

    private static void bits() {
        Maker maker = new Maker(61);
        int[] entries = {maker.number(-2), maker.number(7), maker.floating(Float.floatToRawIntBits(-1.5f)), maker.floating(0x7FC00001),
            maker.wide(5, -3), maker.wide(5, 0x123456789ABCDEF0L), maker.wide(5, 0xFFFFFFFFL), maker.wide(6, Double.doubleToRawLongBits(-2.5)),
            maker.number(LOWEST), maker.wide(5, Long.MIN_VALUE)};
        long[] due = {-2, 7, Float.floatToRawIntBits(-1.5f), 0x7FC00001, -3, 0x123456789ABCDEF0L, 0xFFFFFFFFL,
            Double.doubleToRawLongBits(-2.5), LOWEST, Long.MIN_VALUE};
        ClassGate gate = check.kept("bits", maker);
        for (int i = 0; i < due.length; i++) {
            check.due("bits of " + i, gate.bits(entries[i]), due[i]);
        }
        for (int k : new int[] {0, 1, 2, entries[4] + 1, -1, LOWEST, GREATEST, maker.entries.size()}) {
            check.due("bits of others", gate.bits(k), 0);
        }
    }

    private static void characters() {
        Maker maker = new Maker(61);
        int text = maker.text("a\u0000\u00ff\uffff");
        ClassGate gate = check.kept("characters", maker);
        int[] due = {'a', 0, 255, 65535};
        for (int i = 0; i < due.length; i++) {
            check.due("character " + i, gate.character(text, i), due[i]);
        }
        for (int i : new int[] {-1, 4, LOWEST, GREATEST}) {
            check.due("no character " + i, gate.character(text, i), -1);
        }
        for (int k : new int[] {0, 2, -1, maker.entries.size(), LOWEST, GREATEST}) {
            check.due("no text " + k, gate.character(k, 0), -1);
        }
    }

    private static void places() {
        String[] texts = {"I", "J", "D", "[J", "LA;", "()V", "(IJ)D", "(" + "I".repeat(255) + ")J", "([DD)[D", "()Z", "V", "",
            "(" + "I".repeat(256) + ")V", "()", "A", "[".repeat(255) + "D", "[".repeat(256) + "D"};
        int[] due = {1, 2, 2, 1, 1, 0, 2051, 2303, 1027, 1024, -1, -1, -1, -1, -1, 1, -1};
        Maker maker = new Maker(61);
        int[] entries = new int[texts.length];
        for (int i = 0; i < texts.length; i++) {
            entries[i] = maker.text(texts[i]);
        }
        ClassGate gate = check.kept("places", maker);
        for (int i = 0; i < texts.length; i++) {
            check.due("places of " + texts[i], gate.places(entries[i]), due[i]);
        }
        for (int k : new int[] {0, 2, -1, maker.entries.size(), LOWEST, GREATEST}) {
            check.due("places of no text", gate.places(k), -1);
        }
    }

    private static void fields() {
        Maker maker = new Maker(61);
        int constant = maker.wide(5, 9);
        maker.field(25, "f", "J").with(maker.attribute("Odd"), maker.attribute("ConstantValue", Maker.u2(constant)));
        maker.field(18, "g", "I").with(maker.attribute("ConstantValue", Maker.u2(maker.number(3))));
        maker.field(2, "h", "I");
        ClassGate gate = check.kept("fields", maker);
        int[][] due = {{25, maker.text("f"), maker.text("J"), 1, constant, 0, 0, 0, 0, 0},
            {18, maker.text("g"), maker.text("I"), 1, 0, 0, 0, 0, 0, 0}, {2, maker.text("h"), maker.text("I"), 0, 0, 0, 0, 0, 0, 0}};
        for (int i = 0; i < due.length; i++) {
            for (int what = 0; what < 10; what++) {
                check.due("field " + i + " what " + what, gate.member(false, i, what), due[i][what]);
            }
        }
        for (int i : new int[] {-1, 3, LOWEST, GREATEST}) {
            check.due("no field " + i, gate.member(false, i, 0), -1);
            check.due("no method " + i, gate.member(true, i, 9), -1);
        }
        check.due("no methods", gate.member(true, 0, 0), -1);
    }

    private static void methods() {
        Maker maker = new Maker(61);
        maker.method(257, "m", "(J[J)I").with(maker.attribute("Exceptions", Maker.u2(1, 2)));
        maker.method(9, "n", "(J)V").with(maker.attribute("Odd"), maker.code(65535, 300, Maker.u1(0, 0, 177), Maker.u2(0, 1, 0, 0)),
                maker.attribute("Exceptions", Maker.u2(3, 2, 2, 4)));
        ClassGate gate = check.kept("methods", maker);
        int[][] due = {{257, maker.text("m"), maker.text("(J[J)I"), 1, 0, 0, 0, 0, 4, 1},
            {9, maker.text("n"), maker.text("(J)V"), 2, 3, 65535, 300, 1, 2, 3}};
        for (int i = 0; i < due.length; i++) {
            for (int what = 0; what < 10; what++) {
                check.due("method " + i + " what " + what, gate.member(true, i, what), due[i][what]);
            }
        }
        check.due("no fields", gate.member(false, 0, 4), -1);
    }

    private static void finding() {
        Maker maker = new Maker(61);
        maker.field(1, "a", "I");
        maker.field(1, "b", "I");
        maker.field(1, "b", "J");
        maker.method(257, "b", "()V");
        maker.method(257, "a", "()V");
        int again = maker.textAgain("b");
        int type = maker.textAgain("J");
        ClassGate gate = check.kept("finding", maker);
        check.due("field", gate.find(false, maker.text("b"), maker.text("I")), 1);
        check.due("by the same texts", gate.find(false, again, type), 2);
        check.due("not with that type", gate.find(false, maker.text("a"), type), -1);
        check.due("method", gate.find(true, maker.text("a"), maker.text("()V")), 1);
        check.due("no such method", gate.find(true, again, type), -1);
        for (int k : new int[] {0, 2, -1, maker.entries.size(), LOWEST, GREATEST}) {
            check.due("no name", gate.find(false, k, type), -1);
            check.due("no type", gate.find(false, again, k), -1);
            check.due("neither", gate.find(true, k, k), -1);
        }
    }

    private static void rows() {
        Maker maker = new Maker(61);
        maker.method(257, "a", "()V");
        maker.method(9, "b", "()V").with(maker.code(1, 0, Maker.u1(0, 0, 177), Maker.u2(0, 2, 1, 4, 1, 3, 2, 0)));
        ClassGate gate = check.kept("rows", maker);
        int[][] due = {{0, 2, 1, 4}, {1, 3, 2, 0}};
        for (int r = 0; r < 2; r++) {
            for (int what = 0; what < 4; what++) {
                check.due("row", gate.row(1, r, what), due[r][what]);
                check.due("row without code", gate.row(0, r, what), -1);
            }
        }
        for (int none : new int[] {-1, 2, LOWEST, GREATEST}) {
            check.due("no row", gate.row(1, none, 0), -1);
            check.due("no method", gate.row(none, 0, 3), -1);
        }
    }

    private static void bootstraps() {
        Maker maker = new Maker(61);
        int handle = maker.handle(6, maker.ref(10, "B", "m", "()V"));
        int other = maker.handle(5, maker.ref(10, "B", "m", "()V"));
        maker.attributes.add(maker.attribute("BootstrapMethods", Maker.u2(3, handle, 2, 2, handle, other, 0, handle, 1, 4)));
        ClassGate gate = check.kept("bootstraps", maker);
        int[][] due = {{handle, 2, handle, -1}, {other, -1, -1, -1}, {handle, 4, -1, -1}, {-1, -1, -1, -1}};
        for (int i = 0; i < due.length; i++) {
            for (int part = 0; part < 4; part++) {
                check.due("bootstrap " + i + " part " + part, gate.bootstrap(i, part), due[i][part]);
            }
        }
        for (int none : new int[] {-1, LOWEST, GREATEST}) {
            check.due("no bootstrap", gate.bootstrap(none, 0), -1);
            check.due("no part", gate.bootstrap(0, none), -1);
        }
        ClassGate without = check.kept("without", new Maker(61));
        check.due("without", without.bootstrap(0, 0), -1);
    }

    /** What is asked for by a number that has no meaning throws, with a class and without, and changes nothing. */
    private static void refusals(ClassGate gate) {
        int before = gate.count(0);
        for (int what : new int[] {-1, LOWEST, GREATEST, 16, 17}) {
            check.due("count " + what, refused(gate, 0, what), 1);
        }
        for (int what : new int[] {-1, LOWEST, GREATEST, 3}) {
            check.due("entry part " + what, refused(gate, 1, what), 1);
        }
        for (int what : new int[] {-1, LOWEST, GREATEST, 10}) {
            check.due("field's " + what, refused(gate, 2, what), 1);
            check.due("method's " + what, refused(gate, 3, what), 1);
        }
        for (int what : new int[] {-1, LOWEST, GREATEST, 4}) {
            check.due("row's " + what, refused(gate, 4, what), 1);
        }
        for (int what : new int[] {-1, LOWEST, GREATEST, 5}) {
            check.due("instruction's " + what, refused(gate, 5, what), 1);
        }
        check.due("nothing has changed", gate.count(0), before);
    }

    private static int refused(ClassGate gate, int call, int what) {
        try {
            switch (call) {
                case 0 -> gate.count(what);
                case 1 -> gate.entry(1, what);
                case 2 -> gate.member(false, 0, what);
                case 3 -> gate.member(true, 0, what);
                case 4 -> gate.row(0, 0, what);
                default -> gate.instruction(0, 0, what);
            }
            return 0;
        } catch (IllegalArgumentException e) {
            return 1;
        }
    }
}
