import java.util.Arrays;

/** Promises 1 to 5 (a new object, feed, end, read, place) and the rules of reading, 1 to 8. */
public final class ReadingTest {
    private static final Check check = new Check();

    public static void main(String[] args) {
        aNewObject();
        feeding();
        endings();
        theLatestFile();
        aFileCutAnywhere();
        head();
        tags();
        texts();
        wideEntries();
        lengths();
        check.end();
    }

    private static void aNewObject() {
        ClassGate gate = new ClassGate();
        check.due("new: place", gate.place(), -1);
        for (int what = 0; what <= 15; what++) {
            check.due("new: count " + what, gate.count(what), -1);
        }
        check.due("new: entry", gate.entry(0, 0), -1);
        check.due("new: bits", gate.bits(1), 0);
        check.due("new: character", gate.character(1, 0), -1);
        check.due("new: places", gate.places(1), -1);
        check.due("new: member", gate.member(true, 0, 0), -1);
        check.due("new: find", gate.find(false, 1, 1), -1);
        check.due("new: row", gate.row(0, 0, 0), -1);
        check.due("new: bootstrap", gate.bootstrap(0, 0), -1);
        check.due("new: cut", gate.cut(0), -1);
        check.due("new: instruction", gate.instruction(0, 0, 0), -1);
        check.due("new: jump", gate.jump(0, 0, 0, true), -1);
        check.due("new: end of nothing", gate.end(0), 0);
        check.due("new: read of nothing", gate.read(), 1);
        check.due("new: place in nothing", gate.place(), 0);
    }

    private static void feeding() {
        ClassGate gate = new ClassGate();
        for (int i = 1; i <= 3277; i++) {
            check.due("feed " + i, gate.feed(i, 0, -1, 7, i), 20 * i);
        }
        check.due("one feed too many", refusesFeed(gate), 1);
        check.due("and once more", refusesFeed(gate), 1);
        check.due("all that came", gate.end(65540), 65540);
        check.due("behind end", gate.feed(0, 0, 0, 0, 0), 20);
    }

    private static int refusesFeed(ClassGate gate) {
        try {
            gate.feed(1, 2, 3, 4, 5);
            return 0;
        } catch (IllegalStateException e) {
            return 1;
        }
    }

    private static int refusesEnd(ClassGate gate, int n) {
        try {
            gate.end(n);
            return 0;
        } catch (IllegalArgumentException e) {
            return 1;
        }
    }

    private static void endings() {
        ClassGate gate = new ClassGate();
        check.due("end before anything", refusesEnd(gate, 1), 1);
        gate.feed(0xCAFEBABE, 0, 0, 0, 0);
        check.due("end below 0", refusesEnd(gate, -1), 1);
        check.due("lowest end", refusesEnd(gate, Integer.MIN_VALUE), 1);
        check.due("end of too many", refusesEnd(gate, 21), 1);
        check.due("feed behind refused ends", gate.feed(1, 2, 3, 4, 5), 40);
        check.due("end", gate.end(6), 6);
        check.due("none have come", refusesEnd(gate, 1), 1);
        check.due("read of six bytes", gate.read(), 1);
        check.due("major is not there", gate.place(), 6);
        check.due("the file is gone", gate.read(), 1);
        check.due("from its front", gate.place(), 0);
        gate.feed(0xCAFEBABE, 61, 0, 0, 0);
        gate.end(20);
        gate.end(0);
        check.due("the latest end is empty", gate.read(), 1);
        check.due("so is its place", gate.place(), 0);
    }

    private static void theLatestFile() {
        Maker maker = new Maker(61);
        ClassGate gate = check.kept("a class", maker);
        check.due("its pool", gate.count(0), 5);
        check.due("nothing fed", gate.read(), 1);
        check.due("the class stays", gate.count(0), 5);
        maker.text("more");
        byte[] bytes = maker.bytes();
        Check.bring(gate, Arrays.copyOf(bytes, bytes.length - 1));
        check.due("cut short", gate.read(), 1);
        check.due("where the attributes' count begins", gate.place(), bytes.length - 2);
        check.due("the class before stays", gate.count(0), 5);
        Check.bring(gate, bytes);
        check.due("not before read", gate.count(0), 5);
        check.due("place until then", gate.place(), bytes.length - 2);
        check.due("the next class", gate.read(), 0);
        check.due("no place", gate.place(), -1);
        check.due("is told of", gate.count(0), 6);
        Check.bring(gate, bytes);
        check.due("a file that another end comes behind", gate.end(0), 0);
        check.due("is not read", gate.read(), 1);
    }

    /** Of every length below the whole, the first item that goes beyond the end is named. */
    private static void aFileCutAnywhere() {
        Maker maker = new Maker(61);
        int name = maker.text("wait");
        maker.wide(5, 3);
        maker.handle(6, maker.ref(10, "A", "m", "()V"));
        maker.field(1, "f", "I").with(maker.attribute("Odd", Maker.u1(1, 2, 3)));
        maker.interfaces.add(maker.type("B"));
        byte[] bytes = maker.bytes();
        check.kept("whole", maker);
        int odd = maker.fieldAttributeAt[0][0];
        int[][] items = {
            {0, 4}, {4, 2}, {6, 2}, {8, 2}, {10, 1},
            {maker.entryAt[name], 1}, {maker.entryAt[name] + 1, 2}, {maker.entryAt[name] + 3, 4},
            {maker.entryAt[name] + 7, 1},
            {maker.flagsAt, 2}, {maker.flagsAt + 2, 2}, {maker.flagsAt + 4, 2}, {maker.flagsAt + 6, 2},
            {maker.interfacesAt, 2}, {maker.interfacesAt + 2, 2},
            {maker.fieldAt[0], 2}, {maker.fieldAt[0] + 2, 2}, {maker.fieldAt[0] + 4, 2}, {maker.fieldAt[0] + 6, 2},
            {odd, 2}, {odd + 2, 4}, {odd + 6, 3}, {odd + 9, 2}, {odd + 11, 2},
        };
        for (int[] item : items) {
            for (int length = item[0]; length < item[0] + item[1]; length++) {
                check.wrong("cut to " + length, Arrays.copyOf(bytes, length), 1, item[0]);
            }
        }
        for (int k = 1; k < maker.entries.size(); k++) {
            byte[] entry = maker.entries.get(k);
            if (entry.length == 9) {
                int at = maker.entryAt[k];
                check.wrong("long's high", Arrays.copyOf(bytes, at + 4), 1, at + 1);
                check.wrong("long's low", Arrays.copyOf(bytes, at + 8), 1, at + 5);
            }
            if (entry.length == 4 && entry[0] == 15) {
                int at = maker.entryAt[k];
                check.wrong("handle's kind", Arrays.copyOf(bytes, at + 1), 1, at + 1);
                check.wrong("handle's index", Arrays.copyOf(bytes, at + 3), 1, at + 2);
            }
        }
        check.wrong("a byte behind", Arrays.copyOf(bytes, bytes.length + 1), 8, bytes.length);
    }

    private static void head() {
        byte[] bytes = new Maker(61).bytes();
        byte[] magic = bytes.clone();
        magic[3]--;
        check.wrong("magic", magic, 2, 0);
        check.wrong("magic alone", Arrays.copyOf(magic, 4), 2, 0);
        for (int major : new int[] {0, 44, 62, 65535}) {
            check.wrong("major " + major, new Maker(major).bytes(), 3, 4);
        }
        for (int major = 45; major <= 61; major++) {
            Maker maker = new Maker(major);
            ClassGate gate = check.kept("major " + major, maker);
            check.due("count major", gate.count(7), major);
            maker.minor = 65535;
            if (major < 56) {
                gate = check.kept("minor of " + major, maker);
                check.due("count minor", gate.count(8), 65535);
            } else {
                check.wrong("minor of " + major, maker.bytes(), 3, 4);
            }
        }
        Maker none = new Maker(61);
        none.poolCount = 0;
        check.wrong("no pool", none.bytes(), 4, 8);
    }

    private static void tags() {
        int[] lowest = {99, 45, 99, 45, 45, 45, 45, 45, 45, 45, 45, 45, 45, 99, 99, 51, 51, 55, 51, 53, 53, 99};
        for (int tag = 0; tag < lowest.length; tag++) {
            for (int major = 45; major <= 61; major++) {
                Maker maker = new Maker(major);
                int k = maker.entry(Maker.u1(tag));
                byte[] bytes = maker.bytes();
                byte[] cut = Arrays.copyOf(bytes, maker.entryAt[k] + 1);
                if (major < lowest[tag]) {
                    check.wrong("tag " + tag + " in " + major, cut, 5, maker.entryAt[k]);
                } else if (tag == 5 || tag == 6) {
                    check.wrong("last tag " + tag, cut, 7, maker.entryAt[k]);
                } else {
                    check.wrong("tag " + tag + " in " + major, cut, 1, maker.entryAt[k] + 1);
                }
            }
        }
        Maker maker = new Maker(61);
        int k = maker.entry(Maker.u1(255));
        check.wrong("tag 255", maker.bytes(), 5, maker.entryAt[k]);
    }

    private static void texts() {
        int[][] wrong = {
            {0, 0}, {0, 128}, {0, 191}, {0, 240}, {0, 255}, {0, 192}, {0, 223}, {0, 224}, {0, 239},
            {1, 65, 0}, {1, 65, 130, 65}, {0, 192, 65}, {0, 192, 192}, {0, 223, 0}, {0, 224, 128}, {0, 224, 65, 128},
            {0, 239, 128, 192}, {2, 195, 164, 224, 164}, {3, 224, 128, 128, 240, 128, 128, 128}, {1, 1, 0, 255},
            {2, 200, 140, 250},
        };
        for (int[] one : wrong) {
            byte[] body = Maker.u1(Arrays.copyOfRange(one, 1, one.length));
            Maker maker = new Maker(61);
            int k = maker.entry(Maker.u1(1), Maker.u2(body.length), body);
            maker.text("behind");
            check.wrong("text " + Arrays.toString(one), maker.bytes(), 6, maker.entryAt[k] + 3 + one[0]);
        }
        Maker taken = new Maker(61);
        byte[] body = Maker.u1(1, 127, 192, 128, 193, 129, 223, 191, 224, 128, 128, 224, 129, 129, 239, 191, 191,
                237, 160, 189, 237, 184, 128);
        int k = taken.entry(Maker.u1(1), Maker.u2(body.length), body);
        int empty = taken.entry(Maker.u1(1), Maker.u2(0));
        ClassGate gate = check.kept("texts", taken);
        int[] due = {1, 127, 0, 65, 2047, 0, 65, 65535, 0xD83D, 0xDE00, -1};
        for (int i = 0; i < due.length; i++) {
            check.due("character " + i, gate.character(k, i), due[i]);
        }
        check.due("of the empty text", gate.character(empty, 0), -1);
        check.due("characters in all", gate.count(11), 1 + 16 + 10);
        for (byte[] last : new byte[][] {{0}, {-64}, {-32, -128}}) {
            Maker first = new Maker(61);
            int bad = first.entry(Maker.u1(1), Maker.u2(last.length), last);
            first.entry(Maker.u1(130));
            check.wrong("6 before 5, which goes on with no character", first.bytes(), 6, first.entryAt[bad] + 3);
        }
    }

    private static void wideEntries() {
        for (int tag = 5; tag <= 6; tag++) {
            Maker maker = new Maker(61);
            int k = maker.wide(tag, 1);
            check.kept("whole " + tag, maker);
            maker.poolCount = k + 1;
            check.wrong("second place is not there", maker.bytes(), 7, maker.entryAt[k]);
        }
        Maker alone = new Maker(61);
        int last = alone.entry(Maker.u1(5));
        check.wrong("7 before what follows", Arrays.copyOf(alone.bytes(), alone.entryAt[last] + 1), 7, alone.entryAt[last]);
    }

    private static void lengths() {
        Maker maker = new Maker(61);
        Maker.Attribute odd = maker.attribute("Odd", Maker.u1(1, 2, 3));
        maker.attributes.add(odd);
        for (int length : new int[] {4, 65536, Integer.MAX_VALUE, Integer.MIN_VALUE, -1}) {
            odd.length = length;
            byte[] bytes = maker.bytes();
            check.wrong("length " + length, bytes, 1, maker.attributeAt[0] + 6);
        }
        odd.length = 2;
        byte[] bytes = maker.bytes();
        check.wrong("a byte less", bytes, 8, bytes.length - 1);
        Maker many = new Maker(61);
        many.poolCount = 65535;
        byte[] few = many.bytes();
        check.wrong("a great count", Arrays.copyOf(few, many.flagsAt), 1, many.flagsAt);
        check.wrong("counts without members", Maker.join(Arrays.copyOf(few, 8), Maker.u2(1),
                Maker.u2(33, 0, 0, 0, 65535)), 1, 20);
    }
}
