import java.util.Arrays;

/** Promises 1 to 14, and what the document's terms say of THE CLASS: a test for each sentence, on both sides. */
public final class CallEdgesTest {
    private static final Check check = new Check();
    private static final Class<IllegalArgumentException> ARGUMENT = IllegalArgumentException.class;
    private static final Class<IllegalStateException> STATE = IllegalStateException.class;
    private static final int LOWEST = Integer.MIN_VALUE;
    private static final int GREATEST = Integer.MAX_VALUE;

    public static void main(String[] args) {
        newObject();
        withoutClass();
        withoutClassBehindWrongFile();
        wrongFileLeavesClass();
        latestFileIsClass();
        whatThrowsChangesNothing();
        objectsAreApart();
        feedBringsFourOfEach();
        feedTellsHowMany();
        feedBeyondMost();
        endTakesTheFirst();
        endLeavesNone();
        endBelowZeroOrTooMany();
        readOfLatestEnd();
        readLeavesEmptyFile();
        readOfNoFile();
        placeOfLatestRead();
        countOfEach();
        countOfEmptyClass();
        countCharacters();
        countOfOthers();
        entryParts();
        entryOfNone();
        entryBelowOrBeyond();
        entryOtherParts();
        bitsOfNumbers();
        bitsOfOthers();
        characterOfText();
        characterOfNone();
        placesOfFields();
        placesOfMethods();
        placesOfNeither();
        memberOfField();
        memberOfMethod();
        memberThatIsNone();
        memberOtherWhats();
        findFirst();
        findNone();
        rowOfTable();
        rowThatIsNone();
        rowOtherWhats();
        bootstrapParts();
        bootstrapThatIsNone();
        check.end();
    }

    /** A class with one of everything that can be asked for. */
    private static Maker rich() {
        Maker maker = new Maker(61);
        int handle = maker.handle(6, maker.ref(10, "B", "m", "()V"));
        maker.wide(5, 7);
        maker.field(25, "f", "I").with(maker.attribute("ConstantValue", Maker.u2(maker.number(4))));
        maker.method(9, "m", "(J)V").with(maker.code(2, 3, Maker.u1(0, 170, 0, 0, 0, 0, 0, 19, 0, 0, 0, 5, 0, 0, 0, 5, 0, 0, 0, 19, 177),
                Maker.u2(0, 1, 20, 2)), maker.attribute("Exceptions", Maker.u2(1, 2)));
        maker.attributes.add(maker.attribute("BootstrapMethods", Maker.u2(1, handle, 1, 2)));
        return maker;
    }

    /** All that is told of a rich class, in one row; without a class, all of it is -1 but the bits. */
    private static long[] told(ClassGate gate) {
        long[] all = new long[60];
        int n = 0;
        for (int what = 0; what <= 15; what++) {
            all[n++] = gate.count(what);
        }
        for (int part = 0; part <= 2; part++) {
            all[n++] = gate.entry(0, part);
            all[n++] = gate.entry(2, part);
        }
        all[n++] = gate.character(1, 0);
        all[n++] = gate.places(1);
        for (int what = 0; what <= 9; what++) {
            all[n++] = gate.member(false, 0, what);
            all[n++] = gate.member(true, 0, what);
        }
        all[n++] = gate.find(false, 1, 1);
        for (int what = 0; what <= 3; what++) {
            all[n++] = gate.row(0, 0, what);
        }
        all[n++] = gate.bootstrap(0, 0);
        all[n++] = gate.cut(0);
        for (int what = 0; what <= 4; what++) {
            all[n++] = gate.instruction(0, 1, what);
        }
        all[n++] = gate.jump(0, 1, 0, true);
        all[n++] = gate.jump(0, 1, 1, false);
        return Arrays.copyOf(all, n);
    }

    private static void tellsNothing(String what, ClassGate gate) {
        long[] all = told(gate);
        for (int i = 0; i < all.length; i++) {
            check.due(what + ": " + i + " is told", all[i], -1);
        }
        for (int k = -1; k < 30; k++) {
            check.due(what + ": bits", gate.bits(k), 0);
        }
    }

    private static void tellsTheSame(String what, ClassGate gate, long[] before) {
        check.due(what, Arrays.equals(told(gate), before) ? 1 : 0, 1);
    }

    /** Promise 1: "No bytes have come, there is no CLASS." */
    private static void newObject() {
        ClassGate gate = new ClassGate();
        check.refused("no bytes have come", ARGUMENT, () -> gate.end(1));
        check.due("none of them", gate.end(0), 0);
        check.due("the first that come", gate.feed(0, 0, 0, 0, 0), 20);
        tellsNothing("there is no class", new ClassGate());
    }

    /** "Where a call tells of it, -1 is told without one"; promise 8: 0 without a CLASS. */
    private static void withoutClass() {
        ClassGate gate = new ClassGate();
        Check.bring(gate, rich().bytes());
        tellsNothing("before read", gate);
        check.due("read", gate.read(), 0);
        check.due("told then", gate.count(0) > 0 ? 1 : 0, 1);
        for (int k : new int[] {LOWEST, -1, 0, 1, 65535, GREATEST}) {
            ClassGate none = new ClassGate();
            check.due("entry", none.entry(k, 0), -1);
            check.due("character", none.character(k, k), -1);
            check.due("places", none.places(k), -1);
            check.due("member", none.member(true, k, 0), -1);
            check.due("find", none.find(true, k, k), -1);
            check.due("row", none.row(k, k, 0), -1);
            check.due("bootstrap", none.bootstrap(k, k), -1);
            check.due("cut", none.cut(k), -1);
            check.due("instruction", none.instruction(k, k, 0), -1);
            check.due("jump", none.jump(k, k, k, false), -1);
            check.due("bits", none.bits(k), 0);
        }
    }

    private static void withoutClassBehindWrongFile() {
        byte[] bytes = rich().bytes();
        for (int cut = 0; cut < bytes.length; cut += 13) {
            ClassGate gate = new ClassGate();
            Check.bring(gate, Arrays.copyOf(bytes, cut));
            check.due("read of " + cut, gate.read(), 1);
            tellsNothing("behind a wrong file", gate);
        }
    }

    /** "there is none at first, and one that is WRONG leaves it": whichever rule it breaks. */
    private static void wrongFileLeavesClass() {
        ClassGate gate = check.kept("rich", rich());
        long[] before = told(gate);
        Maker[] wrong = new Maker[6];
        for (int i = 0; i < wrong.length; i++) {
            wrong[i] = new Maker(i == 0 ? 62 : 61);
        }
        wrong[1].entry(Maker.u1(7), Maker.u2(0));
        wrong[2].flags = 32768;
        wrong[3].field(7, "f", "I");
        wrong[4].method(1, "m", "()V");
        wrong[5].dynamic(18, 0, "m", "()V");
        int[] rules = {3, 9, 15, 19, 27, 40};
        for (int i = 0; i < wrong.length; i++) {
            Check.bring(gate, wrong[i].bytes());
            tellsTheSame("before it is read", gate, before);
            check.due("rule", gate.read(), rules[i]);
            tellsTheSame("it is left by " + rules[i], gate, before);
            check.due("and nothing is read again", gate.read(), 1);
            tellsTheSame("it is left by no file", gate, before);
        }
    }

    /** "THE CLASS is the latest FILE that was kept". */
    private static void latestFileIsClass() {
        ClassGate gate = check.kept("rich", rich());
        long[] ofRich = told(gate);
        check.due("cut of the first", gate.cut(0), 3);
        Maker other = new Maker(50);
        other.coded("n", 0, 0, 177);
        Check.bring(gate, other.bytes());
        check.due("read", gate.read(), 0);
        check.due("its version", gate.count(7), 50);
        check.due("its fields", gate.count(1), 0);
        check.due("its bootstrap methods", gate.count(4), 0);
        check.due("no record", gate.count(15), -1);
        check.due("its code", gate.cut(0), 2);
        check.due("no field", gate.member(false, 0, 0), -1);
        Check.bring(gate, rich().bytes());
        check.due("read again", gate.read(), 0);
        tellsTheSame("as at first", gate, ofRich);
    }

    /** "What throws changes nothing." */
    private static void whatThrowsChangesNothing() {
        ClassGate gate = check.kept("rich", rich());
        Check.bring(gate, Maker.u1(1, 2, 3));
        gate.read();
        byte[] next = new Maker(50).bytes();
        Check.bring(gate, next);
        gate.feed(1, 2, 3, 4, 5);
        long[] before = told(gate);
        int place = gate.place();
        check.refused("end", ARGUMENT, () -> gate.end(21));
        check.refused("end", ARGUMENT, () -> gate.end(-1));
        check.refused("count", ARGUMENT, () -> gate.count(16));
        check.refused("entry", ARGUMENT, () -> gate.entry(1, 3));
        check.refused("member", ARGUMENT, () -> gate.member(true, 0, 10));
        check.refused("row", ARGUMENT, () -> gate.row(0, 0, 4));
        check.refused("instruction", ARGUMENT, () -> gate.instruction(0, 0, 5));
        tellsTheSame("the class", gate, before);
        check.due("the place", gate.place(), place);
        check.due("the bytes that came", gate.feed(0, 0, 0, 0, 0), 40);
        check.due("the file", gate.read(), 0);
        check.due("is the one of the latest end", gate.count(7), 50);
    }

    private static void objectsAreApart() {
        ClassGate one = check.kept("rich", rich());
        ClassGate other = new ClassGate();
        one.feed(1, 2, 3, 4, 5);
        check.due("the other's bytes", other.feed(1, 2, 3, 4, 5), 20);
        check.due("the other's class", other.count(0), -1);
        check.due("the other's read", other.read(), 1);
        check.due("the one's place", one.place(), -1);
    }

    /** Promise 2: "Twenty bytes come to THE FILE, four of each argument, the highest first". */
    private static void feedBringsFourOfEach() {
        Maker maker = new Maker(61);
        int k = maker.entry(Maker.u1(5), Maker.u1(0x81, 0x92, 0xA3, 0xB4, 0xC5, 0xD6, 0xE7, 0xF8));
        maker.entries.add(new byte[0]);
        ClassGate gate = check.kept("bytes in their order", maker);
        check.due("the highest first", gate.bits(k), 0x8192A3B4C5D6E7F8L);
        ClassGate five = new ClassGate();
        five.feed(0xCAFEBABE, 0x0000003D, 0x00030100, 0x01410700, 0x01002100);
        five.feed(0x02000200, 0x00000000, 0x00000099, 0x99999999, 0x99999999);
        five.end(31);
        check.due("all five in their order", five.read(), 0);
        check.due("this_class", five.count(9), 2);
        check.due("its text", five.character(1, 0), 'A');
    }

    /** "how many have come": since the latest end. */
    private static void feedTellsHowMany() {
        ClassGate gate = new ClassGate();
        for (int i = 1; i <= 60; i++) {
            check.due("feed " + i, gate.feed(LOWEST, GREATEST, -1, 0, i), 20 * i);
        }
        gate.end(7);
        check.due("behind end", gate.feed(0, 0, 0, 0, 0), 20);
        gate.read();
        check.due("behind read", gate.feed(0, 0, 0, 0, 0), 40);
        check.due("read has left them", gate.end(40), 40);
    }

    /** "IllegalStateException if there would be more than 65540": 3277 times twenty are just so many. */
    private static void feedBeyondMost() {
        ClassGate gate = new ClassGate();
        for (int i = 1; i < 3277; i++) {
            gate.feed(i, i, i, i, i);
        }
        check.due("the last that is taken", gate.feed(1, 2, 3, 4, 5), 65540);
        for (int i = 0; i < 3; i++) {
            check.refused("one more", STATE, () -> gate.feed(0, 0, 0, 0, 0));
        }
        check.refused("not so many", ARGUMENT, () -> gate.end(65541));
        check.due("all are there", gate.end(65540), 65540);
        check.due("they may come again", gate.feed(1, 2, 3, 4, 5), 20);
    }

    /** Promise 3: "The first n of the bytes that came are THE FILE ..: n." */
    private static void endTakesTheFirst() {
        byte[] bytes = new Maker(61).bytes();
        for (int more : new int[] {0, 1, 20, 500}) {
            ClassGate gate = new ClassGate();
            Check.bring(gate, bytes);
            byte[] longer = Arrays.copyOf(bytes, bytes.length + more);
            for (int at = 0; at < longer.length; at += 20) {
                gate.feed(Check.word(longer, at), Check.word(longer, at + 4), Check.word(longer, at + 8),
                        Check.word(longer, at + 12), Check.word(longer, at + 16));
            }
            check.due("end", gate.end(bytes.length), bytes.length);
            check.due("the others are none of it", gate.read(), 0);
        }
        for (int n = 0; n <= 20; n++) {
            ClassGate gate = new ClassGate();
            gate.feed(0xCAFEBABE, 61, 0, 0, 0);
            check.due("so many", gate.end(n), n);
        }
    }

    /** "(none have come then)". */
    private static void endLeavesNone() {
        for (int n : new int[] {0, 1, 20, 40}) {
            ClassGate gate = new ClassGate();
            gate.feed(1, 2, 3, 4, 5);
            gate.feed(1, 2, 3, 4, 5);
            gate.end(n);
            check.refused("none have come", ARGUMENT, () -> gate.end(1));
            check.due("but none is so many", gate.end(0), 0);
            check.due("and they come from the front", gate.feed(0, 0, 0, 0, 0), 20);
        }
    }

    /** "IllegalArgumentException if n is below 0 or there are not so many." */
    private static void endBelowZeroOrTooMany() {
        for (int feeds = 0; feeds <= 3; feeds++) {
            ClassGate gate = new ClassGate();
            for (int i = 0; i < feeds; i++) {
                gate.feed(1, 2, 3, 4, 5);
            }
            for (int n : new int[] {-1, -2, LOWEST, 20 * feeds + 1, 20 * feeds + 20, 65540, 65541, GREATEST}) {
                check.refused("end " + n + " of " + 20 * feeds, ARGUMENT, () -> gate.end(n));
            }
            check.due("just so many", gate.end(20 * feeds), 20 * feeds);
        }
    }

    /** Promise 4: "THE FILE (the latest end's ..) is read and checked: 0 if it is kept, else the RULE." */
    private static void readOfLatestEnd() {
        ClassGate gate = new ClassGate();
        Check.bring(gate, new Maker(50).bytes());
        Check.bring(gate, new Maker(51).bytes());
        check.due("read", gate.read(), 0);
        check.due("the latest", gate.count(7), 51);
        Check.bring(gate, new Maker(52).bytes());
        Check.bring(gate, new Maker(62).bytes());
        check.due("the latest is wrong", gate.read(), 3);
        check.due("the one before it is gone", gate.count(7), 51);
        Check.bring(gate, new Maker(52).bytes());
        gate.end(0);
        check.due("the latest is empty", gate.read(), 1);
        check.due("at its front", gate.place(), 0);
    }

    /** "empty behind this": a file is read once. */
    private static void readLeavesEmptyFile() {
        ClassGate gate = check.kept("rich", rich());
        for (int i = 0; i < 3; i++) {
            check.due("read again", gate.read(), 1);
            check.due("of nothing", gate.place(), 0);
        }
        Check.bring(gate, Maker.u1(9, 9, 9, 9, 9));
        check.due("wrong", gate.read(), 2);
        check.due("and gone", gate.read(), 1);
        gate.feed(0xCAFEBABE, 0, 0, 0, 0);
        check.due("what came is no file before end", gate.read(), 1);
        check.due("it is empty", gate.place(), 0);
        gate.end(20);
        check.due("then it is", gate.read(), 3);
    }

    /** "and at first". */
    private static void readOfNoFile() {
        ClassGate gate = new ClassGate();
        check.due("read of nothing", gate.read(), 1);
        check.due("place in nothing", gate.place(), 0);
        ClassGate fed = new ClassGate();
        fed.feed(0xCAFEBABE, 61, 0, 0, 0);
        check.due("read before end", fed.read(), 1);
        check.due("place before end", fed.place(), 0);
    }

    /** Promise 5: "The PLACE of what was WRONG at the latest read; -1 if nothing was, or there was none." */
    private static void placeOfLatestRead() {
        ClassGate gate = new ClassGate();
        check.due("no read", gate.place(), -1);
        Check.bring(gate, new Maker(62).bytes());
        check.due("still none", gate.place(), -1);
        gate.read();
        check.due("the version's", gate.place(), 4);
        check.due("told again", gate.place(), 4);
        Check.bring(gate, new Maker(61).bytes());
        check.due("until the next read", gate.place(), 4);
        gate.read();
        check.due("nothing was wrong", gate.place(), -1);
        gate.read();
        check.due("in an empty file", gate.place(), 0);
    }

    /** Promise 6: each what, on a class that has different numbers of all. */
    private static void countOfEach() {
        Maker maker = new Maker(61);
        maker.flags = 1025;
        int handle = maker.handle(6, maker.ref(10, "B", "m", "()V"));
        maker.interfaces.add(maker.type("B"));
        maker.interfaces.add(maker.type("C"));
        for (String name : new String[] {"a", "b", "c"}) {
            maker.field(1, name, "I");
        }
        for (String name : new String[] {"a", "b", "c", "d"}) {
            maker.method(257, name, "()V");
        }
        int name = maker.text("a");
        int type = maker.text("I");
        maker.attributes.add(maker.attribute("BootstrapMethods", Maker.u2(5, handle, 0, handle, 0, handle, 1, 2, handle, 0, handle, 0)));
        maker.attributes.add(maker.attribute("Odd"));
        maker.attributes.add(maker.attribute("InnerClasses", Maker.u2(6), Maker.u2(rows(6, 2, 0, 0, 0))));
        maker.attributes.add(maker.attribute("NestMembers", Maker.u2(7), Maker.u2(rows(7, 2))));
        maker.attributes.add(maker.attribute("PermittedSubclasses", Maker.u2(8), Maker.u2(rows(8, 2))));
        maker.attributes.add(maker.attribute("Record", Maker.u2(9), Maker.u2(rows(9, name, type, 0))));
        ClassGate gate = check.kept("counts", maker);
        int[] due = {maker.entries.size(), 3, 4, 2, 5, 5, 1025, 61, 0, 2, 4, charactersOf(maker), 6, 7, 8, 9};
        for (int what = 0; what < due.length; what++) {
            check.due("count " + what, gate.count(what), due[what]);
        }
        Maker old = new Maker(45);
        old.minor = 65535;
        gate = check.kept("old", old);
        check.due("minor", gate.count(8), 65535);
        check.due("major", gate.count(7), 45);
    }

    private static int[] rows(int number, int... row) {
        int[] all = new int[number * row.length];
        for (int i = 0; i < all.length; i++) {
            all[i] = row[i % row.length];
        }
        return all;
    }

    private static int charactersOf(Maker maker) {
        int number = 0;
        for (byte[] entry : maker.entries) {
            number += entry.length > 0 && entry[0] == 1 ? entry.length - 3 : 0;
        }
        return number;
    }

    /** The least that a class has: "0" of all that it has not, "15: parts of a Record (-1 if it is none)". */
    private static void countOfEmptyClass() {
        ClassGate gate = check.kept("a small class", new Maker(61));
        int[] due = {5, 0, 0, 0, 0, 0, 33, 61, 0, 2, 4, 17, 0, 0, 0, -1};
        for (int what = 0; what < due.length; what++) {
            check.due("count " + what, gate.count(what), due[what]);
        }
        Maker record = new Maker(61);
        record.attributes.add(record.attribute("Record", Maker.u2(0)));
        check.due("a record of no parts", check.kept("record", record).count(15), 0);
        Maker early = new Maker(59);
        early.attributes.add(early.attribute("Record", Maker.u2(0)));
        check.due("no record yet", check.kept("record", early).count(15), -1);
    }

    /** "11: characters in all Utf8 entries together": not their bytes. */
    private static void countCharacters() {
        Maker maker = new Maker(61);
        String[] texts = {"", "x", "\u0000", "\u00e9\u00e9", "\u20ac\u20ac\u20ac", "\ud83d\ude00"};
        int due = 17;
        for (String text : texts) {
            maker.text(text);
            due += text.length();
            check.due("characters", check.kept("texts", maker).count(11), due);
        }
        maker.textAgain("x");
        check.due("the same text once more", check.kept("texts", maker).count(11), due + 1);
    }

    /** "IllegalArgumentException for others." */
    private static void countOfOthers() {
        for (ClassGate gate : new ClassGate[] {new ClassGate(), check.kept("rich", rich())}) {
            for (int what : new int[] {-1, -2, LOWEST, 16, 17, 100, GREATEST}) {
                check.refused("count " + what, ARGUMENT, () -> gate.count(what));
            }
        }
    }

    /** Promise 7: "part 0: its tag .., 1: its first index or reference_kind, 2: its second index (0 if it has no such)". */
    private static void entryParts() {
        Maker maker = new Maker(61);
        int text = maker.text("()V");
        int ref = maker.ref(10, "B", "m", "()V");
        int handle = maker.handle(6, ref);
        int[][] due = {{1, 1, 0, 0}, {2, 7, 1, 0}, {text, 1, 0, 0}, {maker.number(-1), 3, 0, 0}, {maker.floating(-1), 4, 0, 0},
            {maker.wide(5, -1), 5, 0, 0}, {maker.wide(6, -1), 6, 0, 0}, {maker.string("()V"), 8, text, 0},
            {maker.ref(9, "B", "f", "I"), 9, maker.type("B"), maker.pair("f", "I")},
            {ref, 10, maker.type("B"), maker.pair("m", "()V")},
            {maker.ref(11, "B", "m", "()V"), 11, maker.type("B"), maker.pair("m", "()V")},
            {maker.pair("m", "()V"), 12, maker.text("m"), text}, {handle, 15, 6, ref}, {maker.methodType("()V"), 16, text, 0},
            {maker.dynamic(17, 2, "f", "I"), 17, 2, maker.pair("f", "I")},
            {maker.dynamic(18, 1, "m", "()V"), 18, 1, maker.pair("m", "()V")},
            {maker.entry(Maker.u1(19), Maker.u2(text)), 19, text, 0}, {maker.entry(Maker.u1(20), Maker.u2(text)), 20, text, 0}};
        maker.attributes.add(maker.attribute("BootstrapMethods", Maker.u2(3, handle, 0, handle, 0, handle, 0)));
        ClassGate gate = check.kept("entries", maker);
        for (int[] one : due) {
            for (int part = 0; part <= 2; part++) {
                check.due("entry of tag " + one[1] + " part " + part, gate.entry(one[0], part), one[part + 1]);
            }
        }
    }

    /** "(0 of none: a second place, 0)". */
    private static void entryOfNone() {
        Maker maker = new Maker(61);
        int[] wide = {maker.wide(5, -1), maker.wide(6, -1)};
        ClassGate gate = check.kept("wide ones", maker);
        for (int part = 0; part <= 2; part++) {
            check.due("entry 0", gate.entry(0, part), 0);
            for (int k : wide) {
                check.due("its place", gate.entry(k, part), part == 0 ? k == wide[0] ? 5 : 6 : 0);
                check.due("its second place", gate.entry(k + 1, part), 0);
            }
        }
    }

    /** "-1 if k is below 0 or not below constant_pool_count." */
    private static void entryBelowOrBeyond() {
        Maker maker = new Maker(61);
        int last = maker.text("last");
        ClassGate gate = check.kept("a class", maker);
        for (int part = 0; part <= 2; part++) {
            check.due("the last", gate.entry(last, part), part == 0 ? 1 : 0);
            for (int k : new int[] {-1, -2, LOWEST, last + 1, last + 2, 65535, 65536, GREATEST}) {
                check.due("entry " + k, gate.entry(k, part), -1);
            }
        }
        int wide = maker.wide(5, 1);
        gate = check.kept("a wide one at last", maker);
        check.due("its second place", gate.entry(wide + 1, 0), 0);
        check.due("behind it", gate.entry(wide + 2, 0), -1);
    }

    /** "IllegalArgumentException for other parts": of whatever entry. */
    private static void entryOtherParts() {
        for (ClassGate gate : new ClassGate[] {new ClassGate(), check.kept("rich", rich())}) {
            for (int part : new int[] {-1, LOWEST, 3, 4, GREATEST}) {
                for (int k : new int[] {-1, 0, 1, 500}) {
                    check.refused("part " + part + " of " + k, ARGUMENT, () -> gate.entry(k, part));
                }
            }
        }
    }

    /** Promise 8: "The bits of an Integer, Float (as an int), Long or Double". */
    private static void bitsOfNumbers() {
        int[] ints = {0, 1, -1, GREATEST, LOWEST, 0x7FC00000, 0xFF800001, 0x80000001};
        long[] longs = {0, 1, -1, Long.MAX_VALUE, Long.MIN_VALUE, 0xFFFFFFFFL, 0x100000000L, 0x80000000L, 0x7FF8000000000000L, 0xFFF0000000000001L};
        Maker maker = new Maker(61);
        for (int value : ints) {
            int whole = maker.number(value);
            int real = maker.floating(value);
            ClassGate gate = check.kept("ints", maker);
            check.due("an Integer", gate.bits(whole), value);
            check.due("a Float", gate.bits(real), value);
        }
        for (long value : longs) {
            int whole = maker.wide(5, value);
            int real = maker.wide(6, value);
            ClassGate gate = check.kept("longs", maker);
            check.due("a Long", gate.bits(whole), value);
            check.due("a Double", gate.bits(real), value);
            check.due("a second place", gate.bits(whole + 1), 0);
            check.due("a second place", gate.bits(real + 1), 0);
        }
    }

    /** "0 of others, and without a CLASS". */
    private static void bitsOfOthers() {
        Maker maker = rich();
        ClassGate gate = check.kept("rich", maker);
        for (int k = -1; k <= maker.entries.size() + 1; k++) {
            int tag = k < 0 || k >= maker.entries.size() || maker.entries.get(k).length == 0 ? 0 : maker.entries.get(k)[0];
            if (tag < 3 || tag > 6) {
                check.due("bits of tag " + tag, gate.bits(k), 0);
            }
        }
        for (int k : new int[] {LOWEST, GREATEST, 65535, 65536}) {
            check.due("bits of " + k, gate.bits(k), 0);
        }
        check.due("without a class", new ClassGate().bits(5), 0);
    }

    /** Promise 9: "Character i of a Utf8 entry". */
    private static void characterOfText() {
        Maker maker = new Maker(61);
        String[] texts = {"a", "\u0001\u007f\u0080\u07ff\u0800\uffff\u0000", "", "xyz"};
        for (String text : texts) {
            int k = maker.text(text);
            ClassGate gate = check.kept("texts", maker);
            for (int i = 0; i < text.length(); i++) {
                check.due("character " + i, gate.character(k, i), text.charAt(i));
            }
            check.due("none behind the last", gate.character(k, text.length()), -1);
            check.due("none before the first", gate.character(k, -1), -1);
        }
    }

    /** "-1 if it is none or has not so many". */
    private static void characterOfNone() {
        Maker maker = rich();
        int empty = maker.text("");
        ClassGate gate = check.kept("rich", maker);
        for (int i : new int[] {0, 1, -1, LOWEST, GREATEST}) {
            check.due("of the empty text", gate.character(empty, i), -1);
            check.due("of a text of one", gate.character(1, i), i == 0 ? 'A' : -1);
            for (int k : new int[] {LOWEST, -1, 0, 2, 4, maker.wideAt(), maker.wideAt() + 1, maker.entries.size(), 65536, GREATEST}) {
                check.due("of " + k, gate.character(k, i), -1);
            }
        }
    }

    private static void places(String text, int due) {
        Maker maker = new Maker(61);
        int k = maker.text(text);
        check.due("places of " + text, check.kept("a text", maker).places(k), due);
    }

    /** Promise 10: "of a Utf8 that is a field's 1 or 2". */
    private static void placesOfFields() {
        for (String one : new String[] {"B", "C", "F", "I", "S", "Z", "LA;", "LJ;", "[I", "[J", "[[D", "[".repeat(255) + "J"}) {
            places(one, 1);
        }
        places("J", 2);
        places("D", 2);
    }

    /** "of one that is a method's those of its arguments, 1024 more for each place of its result". */
    private static void placesOfMethods() {
        String[] results = {"V", "I", "LA;", "[J", "J", "D"};
        int[] ofResults = {0, 1024, 1024, 1024, 2048, 2048};
        for (int i = 0; i < results.length; i++) {
            places("()" + results[i], ofResults[i]);
            places("(I)" + results[i], ofResults[i] + 1);
            places("(JD[J)" + results[i], ofResults[i] + 5);
            places("(" + "I".repeat(255) + ")" + results[i], ofResults[i] + 255);
            places("(" + "D".repeat(127) + "B)" + results[i], ofResults[i] + 255);
            places("(" + "I".repeat(256) + ")" + results[i], -1);
            places("(" + "D".repeat(128) + ")" + results[i], -1);
        }
    }

    /** "-1 if it is neither". */
    private static void placesOfNeither() {
        for (String text : new String[] {"", "V", "A", "LA", "L;", "II", "[", "[V", "(", "()", "(I", "(V)V", "()VV", "I)V",
            "[".repeat(256) + "J", "java/lang/Object"}) {
            places(text, -1);
        }
        Maker maker = rich();
        ClassGate gate = check.kept("rich", maker);
        for (int k : new int[] {LOWEST, -1, 0, 2, maker.wideAt(), maker.wideAt() + 1, maker.entries.size(), 65536, GREATEST}) {
            check.due("places of " + k, gate.places(k), -1);
        }
    }

    /** Promise 11 of fields: "4: the entry of ConstantValue (.. 0 without)", "(5 to 9 of a field: 0)". */
    private static void memberOfField() {
        Maker maker = new Maker(61);
        int value = maker.wide(6, 1);
        maker.field(8, "a", "D").with(maker.attribute("Odd"), maker.attribute("ConstantValue", Maker.u2(value)), maker.attribute("Odd"));
        maker.field(65535 & ~(6 | 64), "b", "I");
        maker.field(0, "c", "I").with(maker.attribute("Odd"));
        ClassGate gate = check.kept("fields", maker);
        int[][] due = {{8, maker.text("a"), maker.text("D"), 1, value, 0, 0, 0, 0, 0},
            {65535 & ~(6 | 64), maker.text("b"), maker.text("I"), 0, 0, 0, 0, 0, 0, 0},
            {0, maker.text("c"), maker.text("I"), 0, 0, 0, 0, 0, 0, 0}};
        for (int i = 0; i < due.length; i++) {
            for (int what = 0; what <= 9; what++) {
                check.due("field " + i + " what " + what, gate.member(false, i, what), due[i][what]);
            }
        }
    }

    /** Promise 11 of methods: "code_length; 0 without", and all that a Code and an Exceptions tell. */
    private static void memberOfMethod() {
        Maker maker = new Maker(61);
        maker.method(1025, "a", "(IJ)V");
        maker.method(9, "b", "(IJ)D").with(maker.attribute("Exceptions", Maker.u2(2, 2, 4)),
                maker.code(65535, 65535, Maker.u1(0, 0, 0, 177), Maker.u2(0, 1, 0, 0, 0, 2, 0, 0, 0, 3, 0, 0), maker.attribute("StackMapTable")));
        maker.method(1, "c", "(" + "I".repeat(254) + ")V").with(maker.code(0, 255, Maker.u1(177), new byte[0]), maker.attribute("Odd"));
        maker.method(257, "d", "()V").with(maker.attribute("Exceptions", Maker.u2(0)));
        ClassGate gate = check.kept("methods", maker);
        int[][] due = {{1025, maker.text("a"), maker.text("(IJ)V"), 0, 0, 0, 0, 0, 4, 0},
            {9, maker.text("b"), maker.text("(IJ)D"), 2, 4, 65535, 65535, 3, 3, 2},
            {1, maker.text("c"), maker.text("(" + "I".repeat(254) + ")V"), 1, 1, 0, 255, 0, 255, 0},
            {257, maker.text("d"), maker.text("()V"), 1, 0, 0, 0, 0, 1, 0}};
        for (int i = 0; i < due.length; i++) {
            for (int what = 0; what <= 9; what++) {
                check.due("method " + i + " what " + what, gate.member(true, i, what), due[i][what]);
            }
        }
    }

    /** "-1 if there is none". */
    private static void memberThatIsNone() {
        Maker maker = new Maker(61);
        ClassGate none = check.kept("no members", maker);
        maker.field(1, "a", "I");
        maker.field(1, "b", "I");
        maker.method(257, "c", "()V");
        ClassGate gate = check.kept("members", maker);
        for (int what = 0; what <= 9; what++) {
            check.due("no field at all", none.member(false, 0, what), -1);
            check.due("no method at all", none.member(true, 0, what), -1);
            for (int i : new int[] {-1, -2, LOWEST, 2, 3, 65536, GREATEST}) {
                check.due("no field " + i, gate.member(false, i, what), -1);
                check.due("no method " + i, gate.member(true, i, what), -1);
            }
            check.due("no second method", gate.member(true, 1, what), -1);
        }
        check.due("the last field", gate.member(false, 1, 0), 1);
        check.due("the last method", gate.member(true, 0, 0), 257);
    }

    /** "IllegalArgumentException for other whats": of whatever member. */
    private static void memberOtherWhats() {
        for (ClassGate gate : new ClassGate[] {new ClassGate(), check.kept("rich", rich())}) {
            for (int what : new int[] {-1, LOWEST, 10, 11, GREATEST}) {
                for (int i : new int[] {-1, 0, 1}) {
                    check.refused("field's " + what, ARGUMENT, () -> gate.member(false, i, what));
                    check.refused("method's " + what, ARGUMENT, () -> gate.member(true, i, what));
                }
            }
        }
    }

    /** Promise 12: "The first field (method) whose name and descriptor are the texts of entries n and d". */
    private static void findFirst() {
        Maker maker = new Maker(61);
        String[][] fields = {{"a", "I"}, {"b", "I"}, {"a", "J"}, {"ab", "I"}};
        String[][] methods = {{"a", "()V"}, {"b", "()V"}, {"a", "()I"}};
        for (String[] one : fields) {
            maker.field(1, one[0], one[1]);
        }
        for (String[] one : methods) {
            maker.method(257, one[0], one[1]);
        }
        int longA = maker.entry(Maker.u1(1), Maker.u2(2), Maker.u1(193, 161));
        int otherJ = maker.textAgain("J");
        ClassGate gate = check.kept("members", maker);
        for (int i = 0; i < fields.length; i++) {
            check.due("field " + i, gate.find(false, maker.text(fields[i][0]), maker.text(fields[i][1])), i);
            check.due("no method", gate.find(true, maker.text(fields[i][0]), maker.text(fields[i][1])), -1);
        }
        for (int i = 0; i < methods.length; i++) {
            check.due("method " + i, gate.find(true, maker.text(methods[i][0]), maker.text(methods[i][1])), i);
            check.due("no field", gate.find(false, maker.text(methods[i][0]), maker.text(methods[i][1])), -1);
        }
        check.due("by the texts of other entries", gate.find(false, longA, otherJ), 2);
        check.due("by those of methods", gate.find(true, longA, maker.text("()I")), 2);
        check.due("the texts changed about", gate.find(false, maker.text("I"), maker.text("a")), -1);
        check.due("not both", gate.find(false, maker.text("b"), maker.text("J")), -1);
    }

    /** "-1 if there is none, or one of both is no Utf8". */
    private static void findNone() {
        Maker maker = rich();
        ClassGate gate = check.kept("rich", maker);
        int name = maker.text("f");
        int type = maker.text("I");
        check.due("found", gate.find(false, name, type), 0);
        for (int k : new int[] {LOWEST, -1, 0, 2, maker.wideAt(), maker.wideAt() + 1, maker.entries.size(), 65536, GREATEST}) {
            check.due("no name", gate.find(false, k, type), -1);
            check.due("no type", gate.find(false, name, k), -1);
            check.due("neither", gate.find(false, k, k), -1);
            check.due("neither of a method", gate.find(true, k, k), -1);
        }
        check.due("no members", check.kept("none", new Maker(61)).find(true, 1, 1), -1);
    }

    /** Promise 13: "Of row r of the exception_table of method m, what 0 to 3: start_pc, end_pc, handler_pc, catch_type." */
    private static void rowOfTable() {
        Maker maker = new Maker(61);
        byte[] code = new byte[1000];
        int[] rows = {0, 1, 2, 0, 300, 1000, 999, 4, 998, 999, 0, 2};
        maker.method(9, "a", "()V").with(maker.code(0, 0, code, Maker.u2(rows)));
        maker.method(9, "b", "()V").with(maker.code(0, 0, code, Maker.u2(7, 8, 9, 0)));
        ClassGate gate = check.kept("rows", maker);
        for (int i = 0; i < rows.length; i++) {
            check.due("row " + i / 4 + " what " + i % 4, gate.row(0, i / 4, i % 4), rows[i]);
        }
        for (int what = 0; what <= 3; what++) {
            check.due("the other method's", gate.row(1, 0, what), new int[] {7, 8, 9, 0}[what]);
        }
    }

    /** "-1 if there is none": no row, no table, no Code, no method. */
    private static void rowThatIsNone() {
        Maker maker = new Maker(61);
        maker.method(257, "a", "()V");
        maker.coded("b", 0, 177);
        maker.method(9, "c", "()V").with(maker.code(0, 0, Maker.u1(177), Maker.u2(0, 1, 0, 0, 0, 1, 0, 2)));
        ClassGate gate = check.kept("methods", maker);
        for (int what = 0; what <= 3; what++) {
            check.due("no Code", gate.row(0, 0, what), -1);
            check.due("no rows", gate.row(1, 0, what), -1);
            for (int none : new int[] {-1, LOWEST, GREATEST, 65536, 0x20000000}) {
                check.due("no row " + none, gate.row(2, none, what), -1);
                check.due("no method " + none, gate.row(none, 0, what), -1);
            }
            check.due("no third row", gate.row(2, 2, what), -1);
            check.due("no fourth method", gate.row(3, 0, what), -1);
        }
        check.due("the last row", gate.row(2, 1, 3), 2);
    }

    /** "IllegalArgumentException for other whats": of whatever row. */
    private static void rowOtherWhats() {
        for (ClassGate gate : new ClassGate[] {new ClassGate(), check.kept("rich", rich())}) {
            for (int what : new int[] {-1, LOWEST, 4, 5, GREATEST}) {
                for (int i : new int[] {-1, 0, 1}) {
                    check.refused("row's " + what, ARGUMENT, () -> gate.row(0, i, what));
                    check.refused("row's " + what, ARGUMENT, () -> gate.row(i, 0, what));
                }
            }
        }
    }

    /** Promise 14: "Bootstrap method i: its part 0 the handle's entry, behind it its arguments". */
    private static void bootstrapParts() {
        Maker maker = new Maker(61);
        int one = maker.handle(6, maker.ref(10, "B", "m", "()V"));
        int other = maker.handle(5, maker.ref(10, "B", "m", "()V"));
        int[] many = new int[300];
        Arrays.fill(many, 2);
        many[299] = 4;
        maker.attributes.add(maker.attribute("BootstrapMethods", Maker.u2(4, one, 0, other, 300), Maker.u2(many),
                Maker.u2(one, 1, 4, other, 2, one, 4)));
        ClassGate gate = check.kept("bootstraps", maker);
        int[][] due = {{one, -1, -1, -1}, {other, 2, 2, 2}, {one, 4, -1, -1}, {other, one, 4, -1}, {-1, -1, -1, -1}};
        for (int i = 0; i < due.length; i++) {
            for (int part = 0; part < 4; part++) {
                check.due("bootstrap " + i + " part " + part, gate.bootstrap(i, part), due[i][part]);
            }
        }
        check.due("the last argument of many", gate.bootstrap(1, 300), 4);
        check.due("none behind it", gate.bootstrap(1, 301), -1);
    }

    /** "-1 if there is none": no method, no part, no attribute. */
    private static void bootstrapThatIsNone() {
        ClassGate gate = check.kept("rich", rich());
        for (int none : new int[] {-1, -2, LOWEST, 65536, GREATEST, 0x40000000, 0x7FFFFFFE}) {
            check.due("no method " + none, gate.bootstrap(none, 0), -1);
            check.due("no part " + none, gate.bootstrap(0, none), -1);
        }
        check.due("the only method", gate.bootstrap(0, 1), 2);
        check.due("no second", gate.bootstrap(1, 0), -1);
        check.due("no second argument", gate.bootstrap(0, 2), -1);
        check.due("no attribute", check.kept("none", new Maker(61)).bootstrap(0, 0), -1);
        Maker empty = new Maker(61);
        empty.attributes.add(empty.attribute("BootstrapMethods", Maker.u2(0)));
        check.due("an empty one", check.kept("empty", empty).bootstrap(0, 0), -1);
        Maker early = new Maker(50);
        early.attributes.add(early.attribute("BootstrapMethods", Maker.u2(1, 2, 0)));
        check.due("one that means nothing", check.kept("early", early).bootstrap(0, 0), -1);
    }
}
