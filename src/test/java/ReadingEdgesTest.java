import java.util.ArrayList;
import java.util.Arrays;
import java.util.List;

/** Part 1 of the document's terms, READING: a test for each of its sentences, on both sides of the boundary in it. */
public final class ReadingEdgesTest {
    private static final Check check = new Check();

    public static void main(String[] args) {
        everyItemGoesBeyondEveryEnd();
        bytesOfTextAreOneItem();
        bytesOfAttributeAreOneItem();
        attributesAreNotLookedInto();
        magic();
        majorBelowOrAbove();
        minorNotZero();
        versionBeforeWhatFollows();
        noCount();
        tagThatIsNone();
        tagNotByThisVersion();
        byteWhereCharacterBegins();
        secondByte();
        thirdByte();
        characterEndsWithinItsText();
        placeIsOfFirstByte();
        shorterCharacterIsTaken();
        secondPlaceBelowCount();
        fiveAndSevenBeforeWhatFollows();
        bytesBehindEnd();
        fullFile();
        fullPool();
        readingComesBeforeChecks();
        check.end();
    }

    /** A class that has every kind of item, empty ones too. */
    private static Maker everyKind() {
        Maker maker = new Maker(61);
        maker.text("");
        maker.text("a\u00e9\u20ac");
        maker.number(1);
        maker.floating(2);
        maker.wide(5, 3);
        maker.wide(6, 4);
        maker.string("s");
        maker.ref(9, "B", "f", "I");
        int handle = maker.handle(9, maker.ref(11, "B", "m", "()V"));
        maker.methodType("()V");
        maker.dynamic(17, 0, "f", "I");
        maker.dynamic(18, 0, "m", "()V");
        maker.entry(Maker.u1(19), Maker.u2(1));
        maker.entry(Maker.u1(20), Maker.u2(1));
        maker.interfaces.add(maker.type("B"));
        maker.interfaces.add(maker.type("C"));
        maker.field(1, "f", "I").with(maker.attribute("Odd"), maker.attribute("Odd", Maker.u1(1, 2, 3)));
        maker.field(1, "g", "I");
        maker.method(9, "m", "()V").with(maker.code(0, 0, Maker.u1(0, 177), Maker.u2(0, 1, 1, 0)));
        maker.method(257, "n", "()V");
        maker.attributes.add(maker.attribute("BootstrapMethods", Maker.u2(1, handle, 0)));
        maker.attributes.add(maker.attribute("Odd", Maker.u1(7)));
        return maker;
    }

    /** Where each item of a whole file begins, and how many bytes it has. */
    private static final class Items {
        final List<int[]> all = new ArrayList<>();
        private final byte[] bytes;
        private int at;

        Items(byte[] bytes) {
            this.bytes = bytes;
            next(4);
            next(2);
            next(2);
            int count = next(2);
            for (int k = 1; k < count; k++) {
                k += entry(next(1));
            }
            next(2);
            next(2);
            next(2);
            for (int left = next(2); left > 0; left--) {
                next(2);
            }
            members();
            members();
            attributes();
        }

        private int next(int size) {
            all.add(new int[] {at, size});
            int value = 0;
            for (int i = 0; i < size; i++) {
                value = value << 8 | bytes[at + i] & 255;
            }
            at += size;
            return value;
        }

        private int entry(int tag) {
            switch (tag) {
                case 1 -> next(next(2));
                case 3, 4 -> next(4);
                case 5, 6 -> {
                    next(4);
                    next(4);
                    return 1;
                }
                case 7, 8, 16, 19, 20 -> next(2);
                case 15 -> {
                    next(1);
                    next(2);
                }
                default -> {
                    next(2);
                    next(2);
                }
            }
            return 0;
        }

        private void members() {
            for (int left = next(2); left > 0; left--) {
                next(2);
                next(2);
                next(2);
                attributes();
            }
        }

        private void attributes() {
            for (int left = next(2); left > 0; left--) {
                next(2);
                next(next(4));
            }
        }
    }

    /** "1 an item (u1, u2, u4 ..) goes beyond the end (PLACE: where it begins)": of each length that a file is cut to. */
    private static void everyItemGoesBeyondEveryEnd() {
        Maker maker = everyKind();
        check.kept("whole", maker);
        byte[] bytes = maker.bytes();
        int length = 0;
        for (int[] item : new Items(bytes).all) {
            for (int i = 0; i < item[1]; i++) {
                check.wrong("cut to " + length, Arrays.copyOf(bytes, length), 1, item[0]);
                length++;
            }
        }
        check.due("all lengths", length, bytes.length);
    }

    /** "the bytes of a Utf8 .., as one": their begin is the place, whatever is wrong among those that are there. */
    private static void bytesOfTextAreOneItem() {
        for (int there = 0; there <= 5; there++) {
            byte[] head = Arrays.copyOf(new Maker(61).bytes(), 8);
            byte[] text = Maker.join(head, Maker.u2(2), Maker.u1(1), Maker.u2(5), Maker.u1(0, 255, 'a', 'b', 'c'));
            byte[] bytes = Arrays.copyOf(text, 13 + there);
            check.wrong("of five bytes " + there, bytes, there < 5 ? 1 : 6, 13);
        }
        byte[] head = Arrays.copyOf(new Maker(61).bytes(), 8);
        check.wrong("an empty text, and nothing behind", Maker.join(head, Maker.u2(2), Maker.u1(1), Maker.u2(0)), 1, 13);
        check.wrong("a text of 65535", Maker.join(head, Maker.u2(2), Maker.u1(1), Maker.u2(65535), Maker.u1(1, 2)), 1, 13);
    }

    /** "the bytes .. of an attribute, as one": one more than there are, so many, one less; lengths have no sign. */
    private static void bytesOfAttributeAreOneItem() {
        for (int size : new int[] {0, 1, 3}) {
            Maker maker = new Maker(61);
            Maker.Attribute odd = maker.attribute("Odd", new byte[size]);
            maker.attributes.add(odd);
            check.kept("so many as there are", maker);
            for (int length : new int[] {size + 1, 65536, 0x7FFFFFFF, 0x80000000, 0x80000000 + size, 0xFFFFFFFF}) {
                odd.length = length;
                check.wrong("length " + length, maker, 1, made -> made.attributeAt[0] + 6);
            }
            if (size > 0) {
                odd.length = size - 1;
                check.wrong("one less", maker, 8, made -> made.behind - 1);
            }
        }
    }

    /** "and so many bytes, not looked into": rules of attributes come behind the reading alone. */
    private static void attributesAreNotLookedInto() {
        Maker maker = new Maker(61);
        maker.method(1, "m", "()V").with(maker.attribute("Code", Maker.u1(9)));
        byte[] bytes = maker.bytes();
        check.wrong("a code that is none", bytes, 30, maker.methodAttributeAt[0][0]);
        check.wrong("and a byte behind", Arrays.copyOf(bytes, bytes.length + 1), 8, bytes.length);
        check.wrong("and a byte less", Arrays.copyOf(bytes, bytes.length - 1), 1, bytes.length - 2);
    }

    /** "2 magic". */
    private static void magic() {
        byte[] bytes = new Maker(61).bytes();
        for (int i = 0; i < 4; i++) {
            for (int by : new int[] {1, -1}) {
                byte[] changed = bytes.clone();
                changed[i] += by;
                check.wrong("magic's byte " + i, changed, 2, 0);
                check.wrong("magic alone", Arrays.copyOf(changed, 4), 2, 0);
                check.wrong("no magic", Arrays.copyOf(changed, 3), 1, 0);
            }
        }
    }

    /** "3 the version (PLACE 4): major below 45 or above 61". */
    private static void majorBelowOrAbove() {
        for (int major : new int[] {0, 1, 43, 44, 45, 46, 60, 61, 62, 63, 255, 256, 256 + 61, 61 << 8, 32768 + 45, 65535}) {
            Maker maker = new Maker(major);
            check.judged("major " + major, maker, major >= 45 && major <= 61, 3, made -> 4);
        }
    }

    /** "minor not 0 with major 56 or more". */
    private static void minorNotZero() {
        for (int major = 45; major <= 61; major++) {
            for (int minor : new int[] {0, 1, 3, 255, 256, 32768, 65535}) {
                Maker maker = new Maker(major);
                maker.minor = minor;
                check.judged("version " + major + "." + minor, maker, major < 56 || minor == 0, 3, made -> 4);
            }
        }
    }

    private static void versionBeforeWhatFollows() {
        byte[] bytes = new Maker(62).bytes();
        check.wrong("with nothing behind it", Arrays.copyOf(bytes, 8), 3, 4);
        check.wrong("with a byte less", Arrays.copyOf(bytes, 7), 1, 6);
        bytes[3]++;
        check.wrong("magic before it", bytes, 2, 0);
    }

    /** "4 constant_pool_count is 0": 1 is a pool without entries, in which this_class finds none. */
    private static void noCount() {
        byte[] head = Arrays.copyOf(new Maker(61).bytes(), 8);
        byte[] rest = Maker.u2(33, 1, 1, 0, 0, 0, 0);
        check.wrong("count 0", Maker.join(head, Maker.u2(0), rest), 4, 8);
        check.wrong("count 0 and nothing else", Maker.join(head, Maker.u2(0)), 4, 8);
        check.wrong("count 1", Maker.join(head, Maker.u2(1), rest), 16, 12);
        check.wrong("count 1 and a byte", Maker.join(head, Maker.u2(1), rest, Maker.u1(0)), 8, 24);
    }

    /** An entry of each tag whose bytes are all right to read. */
    private static Maker withTag(int major, int tag) {
        Maker maker = new Maker(major);
        int[] sizes = {0, 2, 0, 4, 4, 8, 8, 2, 2, 4, 4, 4, 4, 0, 0, 3, 2, 4, 4, 2, 2};
        maker.entry(Maker.u1(tag), new byte[tag < sizes.length ? sizes[tag] : 0]);
        if (tag == 5 || tag == 6) {
            maker.entries.add(new byte[0]);
        }
        return maker;
    }

    private static int lowestMajor(int tag) {
        return switch (tag) {
            case 1, 3, 4, 5, 6, 7, 8, 9, 10, 11, 12 -> 45;
            case 15, 16, 18 -> 51;
            case 19, 20 -> 53;
            case 17 -> 55;
            default -> 62;
        };
    }

    /** "5 a tag that 4.4 has not": the others are read, and then found to name entry 0, if they name one. */
    private static void tagThatIsNone() {
        for (int tag = 0; tag < 256; tag++) {
            Maker maker = withTag(61, tag);
            if (lowestMajor(tag) > 61) {
                check.wrong("tag " + tag, maker, 5, made -> made.entryAt[5]);
            } else {
                check.judged("tag " + tag, maker, tag <= 6, 9, made -> made.entryAt[5]);
            }
        }
    }

    /** "or not by this version (15, 16, 18 from 51 on, 19, 20 from 53, 17 from 55)". */
    private static void tagNotByThisVersion() {
        for (int tag = 1; tag <= 20; tag++) {
            for (int major = 45; major <= 61; major++) {
                Maker maker = withTag(major, tag);
                int rule = major < lowestMajor(tag) ? 5 : 9;
                check.judged("tag " + tag + " in " + major, maker, tag <= 6 && rule == 9, rule, made -> made.entryAt[5]);
            }
        }
    }

    private static void text(String what, boolean isRight, int wrongAt, int... bytes) {
        Maker maker = new Maker(45);
        int k = maker.entry(Maker.u1(1), Maker.u2(bytes.length), Maker.u1(bytes));
        maker.number(0x80808080);
        check.judged(what + " " + Arrays.toString(bytes), maker, isRight, 6, made -> made.entryAt[k] + 3 + wrongAt);
    }

    /** "6 a Utf8's byte: 0, 240 to 255, or 128 to 191 where a character begins"; 192 to 239 want others behind them. */
    private static void byteWhereCharacterBegins() {
        for (int b = 0; b < 256; b++) {
            text("alone", b >= 1 && b <= 127, 0, b);
            text("behind another", b >= 1 && b <= 127, 1, 'x', b);
            text("behind one of two bytes", b >= 1 && b <= 127, 2, 195, 164, b);
            text("behind one of three bytes", b >= 1 && b <= 127, 3, 226, 130, 172, b);
            text("with two behind it", b >= 224 && b <= 239, b >= 1 && b <= 127 ? 1 : b >= 192 && b <= 223 ? 2 : 0, b, 128, 191);
        }
    }

    private static final int[] ODD_BYTES = {0, 1, 127, 128, 129, 190, 191, 192, 223, 224, 239, 240, 255};

    private static boolean goesOn(int b) {
        return b >= 128 && b <= 191;
    }

    /** "where behind 192 to 223 no byte 128 to 191 comes within it". */
    private static void secondByte() {
        for (int lead = 192; lead <= 223; lead++) {
            for (int b : ODD_BYTES) {
                text("of two bytes", goesOn(b), 0, lead, b);
                text("behind another", goesOn(b), 1, 'x', lead, b, 'y');
            }
        }
    }

    /** "behind 224 to 239 not two". */
    private static void thirdByte() {
        for (int lead = 224; lead <= 239; lead++) {
            for (int b : ODD_BYTES) {
                for (int c : ODD_BYTES) {
                    text("of three bytes", goesOn(b) && goesOn(c), 0, lead, b, c);
                }
            }
            text("of three and one", true, 0, lead, 128, 191, 'x');
        }
    }

    /** "within it": bytes behind the text would go on with its last character, but are none of it. */
    private static void characterEndsWithinItsText() {
        for (int[] cut : new int[][] {{192}, {223}, {224}, {239}, {224, 128}, {239, 191}, {'x', 200}, {'x', 230, 150}}) {
            byte[] head = Arrays.copyOf(new Maker(61).bytes(), 8);
            byte[] bytes = Maker.join(head, Maker.u2(2), Maker.u1(1), Maker.u2(cut.length), Maker.u1(cut), Maker.u1(128, 128, 128));
            check.wrong("cut " + Arrays.toString(cut), bytes, 6, 13 + (cut[0] == 'x' ? 1 : 0));
        }
    }

    /** "the PLACE is that of the character's first byte". */
    private static void placeIsOfFirstByte() {
        text("third byte is none", false, 0, 224, 128, 'x');
        text("third byte is 0", false, 0, 224, 128, 0);
        text("third byte is 255", false, 0, 224, 128, 255);
        text("second byte is 0", false, 0, 192, 0);
        text("second byte is 240", false, 2, 'a', 'b', 192, 240);
        text("the first of two that are wrong", false, 1, 'a', 0, 255);
    }

    /** "(a character that could be written shorter is taken)": it is the same character. */
    private static void shorterCharacterIsTaken() {
        int[][] forms = {{192, 128, 0}, {193, 191, 127}, {193, 129, 'A'}, {224, 128, 128, 0}, {224, 129, 129, 'A'}, {224, 159, 191, 2047}};
        for (int[] form : forms) {
            Maker maker = new Maker(61);
            int size = form.length - 1;
            int k = maker.entry(Maker.u1(1), Maker.u2(size), Maker.u1(Arrays.copyOf(form, size)));
            ClassGate gate = check.kept("long form of " + form[size], maker);
            check.due("its character", gate.character(k, 0), form[size]);
            check.due("and no other", gate.character(k, 1), -1);
        }
        int[][] shortest = {{194, 128, 128}, {223, 191, 2047}, {224, 160, 128, 2048}, {239, 191, 191, 65535}, {237, 160, 128, 0xD800}};
        for (int[] form : shortest) {
            Maker maker = new Maker(61);
            int size = form.length - 1;
            int k = maker.entry(Maker.u1(1), Maker.u2(size), Maker.u1(Arrays.copyOf(form, size)));
            check.due("character", check.kept("form of " + form[size], maker).character(k, 0), form[size]);
        }
    }

    /** "7 a Long or Double of which the second place is not below constant_pool_count (PLACE: its tag ..)". */
    private static void secondPlaceBelowCount() {
        for (int tag = 5; tag <= 6; tag++) {
            Maker maker = new Maker(61);
            int k = maker.wide(tag, 0);
            check.kept("the second place is the last", maker);
            maker.poolCount = k + 1;
            check.wrong("the second place is beyond", maker, 7, made -> made.entryAt[k]);
            maker.poolCount = k + 3;
            maker.entries.add(Maker.utf8("t"));
            check.due("an entry behind it", check.kept("one more", maker).entry(k + 2, 0), 1);
        }
    }

    /** "5 and 7 are looked at before what follows the tag". */
    private static void fiveAndSevenBeforeWhatFollows() {
        byte[] head = Arrays.copyOf(new Maker(50).bytes(), 8);
        int[][] tags = {{0, 5}, {2, 5}, {13, 5}, {15, 5}, {18, 5}, {5, 7}, {6, 7}, {1, 1}, {3, 1}, {7, 1}};
        for (int[] one : tags) {
            byte[] bytes = Maker.join(head, Maker.u2(2), Maker.u1(one[0]));
            check.wrong("tag " + one[0] + " and no more", bytes, one[1], one[1] == 1 ? 11 : 10);
        }
        for (int tag = 5; tag <= 6; tag++) {
            check.wrong("a wide one that has its place", Maker.join(head, Maker.u2(3), Maker.u1(tag)), 1, 11);
        }
    }

    /** "8 bytes behind the end". */
    private static void bytesBehindEnd() {
        byte[] bytes = everyKind().bytes();
        for (int more : new int[] {1, 2, 20, 1000}) {
            check.wrong(more + " behind", Arrays.copyOf(bytes, bytes.length + more), 8, bytes.length);
        }
    }

    /** A file may have 65540 bytes, and all of them are read. */
    private static void fullFile() {
        for (int size : new int[] {65539, 65540}) {
            Maker maker = new Maker(61);
            int name = maker.text("Odd");
            int left = size - maker.bytes().length - 6;
            maker.attributes.add(new Maker.Attribute(name, new byte[left]));
            check.due("size", maker.bytes().length, size);
            check.kept("a file of " + size, maker);
            maker.attributes.get(0).length = left - 1;
            check.wrong("its last byte is behind the end", maker, 8, made -> size - 1);
            maker.attributes.get(0).length = left + 1;
            check.wrong("a byte is not there", maker, 1, made -> made.attributeAt[0] + 6);
        }
    }

    /** So many entries as a file has room for. */
    private static void fullPool() {
        Maker maker = new Maker(61);
        byte[] empty = Maker.join(Maker.u1(1), Maker.u2(0));
        int more = (65540 - maker.bytes().length) / 3;
        for (int i = 0; i < more; i++) {
            maker.entries.add(empty);
        }
        ClassGate gate = check.kept("a full pool", maker);
        check.due("its count", gate.count(0), more + 5);
        check.due("its last entry", gate.entry(more + 4, 0), 1);
        check.due("no other", gate.entry(more + 5, 0), -1);
        check.due("its characters", gate.count(11), 17);
        maker.entries.set(more + 4, Maker.join(Maker.u1(7), Maker.u2(0)));
        check.wrong("the last entry is wrong", maker, 9, made -> made.entryAt[more + 4]);
        maker.poolCount = 65535;
        check.wrong("a count that there is no room for", maker, 5, made -> made.flagsAt);
    }

    /** "It is read (1), then checked (2), and the first thing that is WRONG, in the order told, decides". */
    private static void readingComesBeforeChecks() {
        Maker maker = new Maker(61);
        maker.entry(Maker.u1(7), Maker.u2(0));
        maker.flags = 32768;
        byte[] bytes = maker.bytes();
        check.wrong("9 behind the reading", bytes, 9, maker.entryAt[5]);
        check.wrong("8 before 9", Arrays.copyOf(bytes, bytes.length + 1), 8, bytes.length);
        check.wrong("1 before 9", Arrays.copyOf(bytes, bytes.length - 1), 1, bytes.length - 2);
        maker.entry(Maker.u1(1), Maker.u2(1), Maker.u1(0));
        check.wrong("6 before 9", maker, 6, made -> made.entryAt[6] + 3);
    }
}
