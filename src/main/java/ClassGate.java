import java.util.Arrays;

/** A gate for class files: reads, checks and keeps them, and tells what is in the one kept last. */
public final class ClassGate {
    private static final int MOST_BYTES = 65540;
    private static final int BYTES_OF_A_FEED = 20;
    private static final int FIRST_ROOM = 1024;
    private static final byte[] NO_BYTES = {};

    private static final int UTF8 = 1;
    private static final int INTEGER = 3;
    private static final int FLOAT = 4;
    private static final int LONG = 5;
    private static final int DOUBLE = 6;
    private static final int CLASS = 7;
    private static final int STRING = 8;
    private static final int FIELD_REF = 9;
    private static final int METHOD_REF = 10;
    private static final int INTERFACE_METHOD_REF = 11;
    private static final int NAME_AND_TYPE = 12;
    private static final int METHOD_HANDLE = 15;
    private static final int METHOD_TYPE = 16;
    private static final int DYNAMIC = 17;
    private static final int INVOKE_DYNAMIC = 18;
    private static final int MODULE = 19;
    private static final int PACKAGE = 20;

    private static final int ACC_PUBLIC = 1;
    private static final int ACC_PRIVATE = 2;
    private static final int ACC_PROTECTED = 4;
    private static final int ACC_STATIC = 8;
    private static final int ACC_FINAL = 16;
    private static final int ACC_SUPER = 32;
    private static final int ACC_SYNCHRONIZED = 32;
    private static final int ACC_VOLATILE = 64;
    private static final int ACC_BRIDGE = 64;
    private static final int ACC_TRANSIENT = 128;
    private static final int ACC_NATIVE = 256;
    private static final int ACC_INTERFACE = 512;
    private static final int ACC_ABSTRACT = 1024;
    private static final int ACC_STRICT = 2048;
    private static final int ACC_ANNOTATION = 8192;
    private static final int ACC_ENUM = 16384;
    private static final int ACC_MODULE = 32768;

    private static final int CONSTANT_VALUE = 1;
    private static final int CODE = 2;
    private static final int EXCEPTIONS = 3;
    private static final int STACK_MAP_TABLE = 4;
    private static final int INNER_CLASSES = 5;
    private static final int BOOTSTRAP_METHODS = 6;
    private static final int NEST_HOST = 7;
    private static final int NEST_MEMBERS = 8;
    private static final int RECORD = 9;
    private static final int PERMITTED_SUBCLASSES = 10;

    private byte[] came;
    private int cameCount;
    private byte[] file;
    private ClassFile kept;
    private int wrongPlace;

    public ClassGate() {
        came = new byte[FIRST_ROOM];
        file = NO_BYTES;
        wrongPlace = -1;
    }

    public int feed(int a, int b, int c, int d, int e) throws IllegalStateException {
        if (cameCount > MOST_BYTES - BYTES_OF_A_FEED) {
            throw new IllegalStateException("more bytes than a file may have");
        }
        takeWord(a);
        takeWord(b);
        takeWord(c);
        takeWord(d);
        takeWord(e);
        return cameCount;
    }

    private void takeWord(int word) {
        if (came.length - cameCount < 4) {
            came = Arrays.copyOf(came, came.length * 2);
        }
        came[cameCount] = (byte) (word >>> 24);
        came[cameCount + 1] = (byte) (word >>> 16);
        came[cameCount + 2] = (byte) (word >>> 8);
        came[cameCount + 3] = (byte) word;
        cameCount += 4;
    }

    public int end(int n) throws IllegalArgumentException {
        if (n < 0 || n > cameCount) {
            throw new IllegalArgumentException("not so many bytes have come");
        }
        file = Arrays.copyOf(came, n);
        cameCount = 0;
        return n;
    }

    public int read() {
        ClassFile found = new ClassFile(new Bytes(file));
        Verdict verdict = new Verdict();
        file = NO_BYTES;
        if (isWhole(found, verdict) && holds(found, verdict)) {
            kept = found;
        }
        wrongPlace = verdict.wrongAt;
        return verdict.rule;
    }

    private static boolean isWhole(ClassFile found, Verdict verdict) {
        Reader reader = new Reader(found, verdict);
        return reader.takesHead()
                && reader.takesPool()
                && reader.takesClass()
                && reader.takesFields()
                && reader.takesMethods()
                && reader.takesEnd();
    }

    private static boolean holds(ClassFile found, Verdict verdict) {
        found.pool.describeTexts();
        PoolCheck poolCheck = new PoolCheck(found, verdict);
        AttributeCheck attributeCheck = new AttributeCheck(found, verdict);
        ClassCheck classCheck = new ClassCheck(found, verdict, attributeCheck);
        return poolCheck.entriesHold()
                && classCheck.headHolds()
                && classCheck.interfacesHold()
                && classCheck.fieldsHold()
                && classCheck.methodsHold()
                && attributeCheck.ofClass()
                && poolCheck.bootstrapsHold(found.bootstrapCount);
    }

    public int place() {
        return wrongPlace;
    }

    public int count(int what) throws IllegalArgumentException {
        if (what < 0 || what > 15) {
            throw new IllegalArgumentException("no such count");
        }
        return kept == null ? -1 : kept.number(what);
    }

    public int entry(int k, int part) throws IllegalArgumentException {
        if (part < 0 || part > 2) {
            throw new IllegalArgumentException("no such part");
        }
        if (kept == null || k < 0 || k >= kept.pool.size) {
            return -1;
        }
        if (part == 0) {
            return kept.pool.tagOf(k);
        }
        return part == 1 ? kept.pool.firstIndex(k) : kept.pool.secondIndex(k);
    }

    public long bits(int k) {
        if (kept == null) {
            return 0;
        }
        int tag = kept.pool.tagOf(k);
        int at = kept.pool.tagPlace(k) + 1;
        if (tag == INTEGER || tag == FLOAT) {
            return kept.bytes.u4(at);
        }
        if (tag == LONG || tag == DOUBLE) {
            return (long) kept.bytes.u4(at) << 32 | kept.bytes.u4(at + 4) & 0xFFFFFFFFL;
        }
        return 0;
    }

    public int character(int k, int i) {
        return kept == null ? -1 : kept.pool.characterAt(k, i);
    }

    public int places(int k) {
        return kept == null ? -1 : kept.pool.placesTold(k);
    }

    public int member(boolean methods, int i, int what) throws IllegalArgumentException {
        if (what < 0 || what > 9) {
            throw new IllegalArgumentException("no such thing of a member");
        }
        Member found = kept == null ? null : kept.memberAt(methods, i);
        return found == null ? -1 : found.number(methods, what);
    }

    public int find(boolean methods, int n, int d) {
        if (kept == null || kept.pool.tagOf(n) != UTF8 || kept.pool.tagOf(d) != UTF8) {
            return -1;
        }
        Member[] members = methods ? kept.methods : kept.fields;
        return kept.pool.sameMember(members, members.length, n, d);
    }

    public int row(int m, int r, int what) throws IllegalArgumentException {
        if (what < 0 || what > 3) {
            throw new IllegalArgumentException("no such column");
        }
        Code code = codeOf(m);
        if (code == null || r < 0 || r >= code.rowCount) {
            return -1;
        }
        return kept.bytes.u2(code.rowsAt + 8 * r + 2 * what);
    }

    private Code codeOf(int m) {
        Member method = kept == null ? null : kept.memberAt(true, m);
        return method == null ? null : method.code;
    }

    public int bootstrap(int i, int part) {
        return kept == null ? -1 : kept.bootstrapPart(i, part);
    }

    public int cut(int m) {
        Code code = codeOf(m);
        return code == null ? -1 : code.cutUp();
    }

    public int instruction(int m, int k, int what) throws IllegalArgumentException {
        if (what < 0 || what > 4) {
            throw new IllegalArgumentException("no such thing of an instruction");
        }
        Code code = codeOf(m);
        return code == null || k < 0 || k >= code.cutUp() ? -1 : code.number(k, what);
    }

    public int jump(int m, int k, int i, boolean keys) {
        Code code = codeOf(m);
        return code == null || k < 0 || k >= code.cutUp() ? -1 : code.switchPlace(k, i, keys);
    }

    /** What was found wrong first: its rule, 0 if nothing was, and its place. */
    private static final class Verdict {
        int rule;
        int wrongAt;

        Verdict() {
            wrongAt = -1;
        }

        /** Answers false so that a check can end with it. */
        boolean wrong(int brokenRule, int brokenAt) {
            rule = brokenRule;
            wrongAt = brokenAt;
            return false;
        }
    }

    /** The bytes of a file; beyond its ends there are zeros. */
    private static final class Bytes {
        private final byte[] data;

        Bytes(byte[] data) {
            this.data = data;
        }

        int size() {
            return data.length;
        }

        int u1(int at) {
            return at < 0 || at >= data.length ? 0 : data[at] & 255;
        }

        int u2(int at) {
            if (at < 0 || at >= data.length - 1) {
                return 0;
            }
            return (data[at] & 255) << 8 | data[at + 1] & 255;
        }

        int u4(int at) {
            if (at < 0 || at >= data.length - 3) {
                return 0;
            }
            return data[at] << 24 | (data[at + 1] & 255) << 16 | (data[at + 2] & 255) << 8 | data[at + 3] & 255;
        }

        /** Whether a byte before the end goes on with a character (128 to 191). */
        boolean goesOn(int at, int end) {
            return at >= 0 && at < end && at < data.length && (data[at] & 192) == 128;
        }

        /** Where the attributes end that begin here, or -1 if they go beyond the end that is given. */
        int attributesEnd(int from, int number, int end) {
            int at = from;
            for (int i = 0; i < number; i++) {
                if (end - at < 6) {
                    return -1;
                }
                int length = u4(at + 2);
                if (length < 0 || length > end - at - 6) {
                    return -1;
                }
                at += 6 + length;
            }
            return at;
        }
    }

    /** The constant pool: of a text the first number is where its characters begin, the second how many it has. */
    private static final class Pool {
        private static final int NO_DESCRIPTOR = -1;
        private static final int METHOD_SHAPE = 4096;
        private static final int RESULT_PLACE = 1024;
        private static final int MOST_ARGUMENT_PLACES = 255;
        private static final int MOST_DIMENSIONS = 255;

        final int size;
        private final int[] tags;
        private final int[] tagPlaces;
        private final int[] firsts;
        private final int[] seconds;
        private final int[] shapes;
        private final char[] characters;
        int characterCount;

        Pool(int size, int fileSize) {
            this.size = size;
            // No entry has fewer than three bytes, so a false count cannot make these rows long.
            int held = Math.max(0, Math.min(size, fileSize / 3 + 1));
            tags = new int[held];
            tagPlaces = new int[held];
            firsts = new int[held];
            seconds = new int[held];
            shapes = new int[held];
            characters = new char[Math.max(0, fileSize)];
        }

        void setTag(int k, int tag, int at) {
            if (k >= 0 && k < tags.length) {
                tags[k] = tag;
                tagPlaces[k] = at;
            }
        }

        void setNumbers(int k, int first, int second) {
            if (k >= 0 && k < tags.length) {
                firsts[k] = first;
                seconds[k] = second;
            }
        }

        void addCharacter(int c) {
            if (characterCount < characters.length) {
                characters[characterCount] = (char) c;
                characterCount++;
            }
        }

        /** The tag of an entry, 0 of what is none. */
        int tagOf(int k) {
            return k < 0 || k >= tags.length ? 0 : tags[k];
        }

        int tagPlace(int k) {
            return k < 0 || k >= tags.length ? 0 : tagPlaces[k];
        }

        int firstIndex(int k) {
            return k < 0 || k >= tags.length || tags[k] < CLASS ? 0 : firsts[k];
        }

        int secondIndex(int k) {
            return k < 0 || k >= tags.length || tags[k] < CLASS ? 0 : seconds[k];
        }

        boolean isWide(int k) {
            int tag = tagOf(k);
            return tag == LONG || tag == DOUBLE;
        }

        int textLength(int k) {
            return tagOf(k) == UTF8 ? seconds[k] : 0;
        }

        int characterAt(int k, int i) {
            return tagOf(k) != UTF8 || i < 0 || i >= seconds[k] ? -1 : characters[firsts[k] + i];
        }

        boolean textIs(int k, String text) {
            if (tagOf(k) != UTF8 || seconds[k] != text.length()) {
                return false;
            }
            for (int i = 0; i < text.length(); i++) {
                if (characters[firsts[k] + i] != text.charAt(i)) {
                    return false;
                }
            }
            return true;
        }

        boolean sameText(int j, int k) {
            if (j == k) {
                return true;
            }
            if (tagOf(j) != UTF8 || tagOf(k) != UTF8 || seconds[j] != seconds[k]) {
                return false;
            }
            for (int i = 0; i < seconds[j]; i++) {
                if (characters[firsts[j] + i] != characters[firsts[k] + i]) {
                    return false;
                }
            }
            return true;
        }

        /** Which of the first members has the name and the descriptor of these texts; -1 if none has. */
        int sameMember(Member[] members, int number, int name, int descriptor) {
            for (int i = 0; i < number && i < members.length; i++) {
                Member one = members[i];
                if (one != null && sameText(one.name, name) && sameText(one.descriptor, descriptor)) {
                    return i;
                }
            }
            return -1;
        }

        boolean hasAngle(int k) {
            for (int i = 0; i < textLength(k); i++) {
                char c = characters[firsts[k] + i];
                if (c == '<' || c == '>') {
                    return true;
                }
            }
            return false;
        }

        boolean isUnqualifiedName(int k) {
            for (int i = 0; i < textLength(k); i++) {
                char c = characters[firsts[k] + i];
                if (c == '.' || c == ';' || c == '[' || c == '/') {
                    return false;
                }
            }
            return textLength(k) > 0;
        }

        /** Whether a text can be that of a Class entry. */
        boolean isClassText(int k) {
            if (characterAt(k, 0) == '[') {
                return isFieldDescriptor(k);
            }
            int from = tagOf(k) == UTF8 ? firsts[k] : 0;
            int end = from + textLength(k);
            return nameEnd(from, end) == end;
        }

        boolean isFieldDescriptor(int k) {
            return tagOf(k) == UTF8 && shapes[k] > 0 && shapes[k] < METHOD_SHAPE;
        }

        boolean isMethodDescriptor(int k) {
            return tagOf(k) == UTF8 && shapes[k] >= METHOD_SHAPE;
        }

        /** Places of a field, or of a method's arguments and 1024 for each of its result; -1 of other texts. */
        int placesTold(int k) {
            if (tagOf(k) != UTF8 || shapes[k] == NO_DESCRIPTOR) {
                return -1;
            }
            return shapes[k] % METHOD_SHAPE;
        }

        int argumentPlaces(int k) {
            return isMethodDescriptor(k) ? shapes[k] % RESULT_PLACE : 0;
        }

        boolean hasNoResult(int k) {
            return isMethodDescriptor(k) && shapes[k] - METHOD_SHAPE < RESULT_PLACE;
        }

        /** Whether this is a Class entry and no array's. */
        boolean isPlainClass(int k) {
            return tagOf(k) == CLASS && characterAt(firsts[k], 0) != '[';
        }

        /** How many dimensions the type of a Class entry has. */
        int dimensionsOf(int k) {
            int text = firstIndex(k);
            int number = 0;
            while (number < textLength(text) && characters[firsts[text] + number] == '[') {
                number++;
            }
            return number;
        }

        /** The name of the NameAndType that a member's, a Dynamic's or an InvokeDynamic's entry has. */
        int nameOf(int k) {
            return firstIndex(secondIndex(k));
        }

        int descriptorOf(int k) {
            return secondIndex(secondIndex(k));
        }

        boolean namesInit(int k) {
            return textIs(nameOf(k), "<init>");
        }

        /** Each text's descriptor is made out once, since many entries may name one long text. */
        void describeTexts() {
            for (int k = 0; k < tags.length; k++) {
                if (tags[k] == UTF8) {
                    shapes[k] = shapeOf(firsts[k], firsts[k] + seconds[k]);
                }
            }
        }

        private int shapeOf(int from, int end) {
            if (from >= end) {
                return NO_DESCRIPTOR;
            }
            if (characters[from] == '(') {
                return methodShape(from + 1, end);
            }
            return typeEnd(from, end) == end ? placesOfType(characters[from]) : NO_DESCRIPTOR;
        }

        private int methodShape(int from, int end) {
            int at = from;
            int places = 0;
            // Each argument has a place at least, so this ends with the places that are allowed.
            while (places <= MOST_ARGUMENT_PLACES && at < end && characters[at] != ')') {
                places += placesOfType(characters[at]);
                at = typeEnd(at, end);
                if (at < 0) {
                    return NO_DESCRIPTOR;
                }
            }
            int result = at + 1;
            if (result >= end || places > MOST_ARGUMENT_PLACES) {
                return NO_DESCRIPTOR;
            }
            if (characters[result] == 'V' && result + 1 == end) {
                return METHOD_SHAPE + places;
            }
            if (typeEnd(result, end) != end) {
                return NO_DESCRIPTOR;
            }
            return METHOD_SHAPE + RESULT_PLACE * placesOfType(characters[result]) + places;
        }

        private static int placesOfType(char c) {
            return c == 'J' || c == 'D' ? 2 : 1;
        }

        /** Where the type ends that begins here, or -1 if none does. */
        private int typeEnd(int from, int end) {
            int at = from;
            while (at < end && characters[at] == '[') {
                at++;
            }
            if (at >= end || at - from > MOST_DIMENSIONS) {
                return -1;
            }
            switch (characters[at]) {
                case 'B':
                case 'C':
                case 'D':
                case 'F':
                case 'I':
                case 'J':
                case 'S':
                case 'Z':
                    return at + 1;
                case 'L':
                    int semicolon = nameEnd(at + 1, end);
                    return semicolon < 0 || semicolon >= end ? -1 : semicolon + 1;
                default:
                    return -1;
            }
        }

        /** Where the class's name ends that begins here, by a ';' or with the text; -1 if there is none. */
        private int nameEnd(int from, int end) {
            int part = from;
            for (int at = from; at < end; at++) {
                char c = characters[at];
                if (c == ';') {
                    return at > part ? at : -1;
                }
                if (c == '.' || c == '[' || c == '/' && at == part) {
                    return -1;
                }
                if (c == '/') {
                    part = at + 1;
                }
            }
            return end > part ? end : -1;
        }
    }

    /** A field or a method. */
    private static final class Member {
        final int begin;
        final int flags;
        final int name;
        final int descriptor;
        final int attributeCount;
        final int attributesAt;
        int known;
        int constant;
        int argumentPlaces;
        int exceptionCount;
        Code code;

        Member(Bytes bytes, int begin) {
            this.begin = begin;
            flags = bytes.u2(begin);
            name = bytes.u2(begin + 2);
            descriptor = bytes.u2(begin + 4);
            attributeCount = bytes.u2(begin + 6);
            attributesAt = begin + 8;
        }

        boolean has(int flag) {
            return (flags & flag) != 0;
        }

        int number(boolean isMethod, int what) {
            switch (what) {
                case 0:
                    return flags;
                case 1:
                    return name;
                case 2:
                    return descriptor;
                case 3:
                    return known;
                case 8:
                    return argumentPlaces;
                case 9:
                    return exceptionCount;
                default:
                    return isMethod ? codeNumber(what) : what == 4 ? constant : 0;
            }
        }

        private int codeNumber(int what) {
            if (code == null) {
                return 0;
            }
            switch (what) {
                case 4:
                    return code.length;
                case 5:
                    return code.maxStack;
                case 6:
                    return code.maxLocals;
                default:
                    return code.rowCount;
            }
        }
    }

    /** A file as it was taken apart. */
    private static final class ClassFile {
        final Bytes bytes;
        Pool pool;
        int minor;
        int major;
        int flagsAt;
        int interfaceCount;
        Member[] fields;
        Member[] methods;
        int attributeCount;
        int attributesAt;
        int known;
        int bootstrapCount;
        int bootstrapsAt;
        int innerCount;
        int nestCount;
        int permittedCount;
        int recordCount;

        ClassFile(Bytes bytes) {
            this.bytes = bytes;
            pool = new Pool(0, 0);
            fields = new Member[0];
            methods = new Member[0];
            recordCount = -1;
        }

        boolean has(int flag) {
            return (bytes.u2(flagsAt) & flag) != 0;
        }

        int number(int what) {
            switch (what) {
                case 0:
                    return pool.size;
                case 1:
                    return fields.length;
                case 2:
                    return methods.length;
                case 3:
                    return interfaceCount;
                case 6:
                    return bytes.u2(flagsAt);
                case 7:
                    return major;
                case 8:
                    return minor;
                case 9:
                    return bytes.u2(flagsAt + 2);
                case 10:
                    return bytes.u2(flagsAt + 4);
                case 11:
                    return pool.characterCount;
                default:
                    return attributeNumber(what);
            }
        }

        private int attributeNumber(int what) {
            switch (what) {
                case 4:
                    return bootstrapCount;
                case 5:
                    return known;
                case 12:
                    return innerCount;
                case 13:
                    return nestCount;
                case 14:
                    return permittedCount;
                default:
                    return recordCount;
            }
        }

        Member memberAt(boolean ofMethods, int i) {
            Member[] members = ofMethods ? methods : fields;
            return i < 0 || i >= members.length ? null : members[i];
        }

        int bootstrapPart(int i, int part) {
            if (i < 0 || i >= bootstrapCount) {
                return -1;
            }
            int at = bootstrapsAt;
            for (int before = 0; before < i; before++) {
                at += 4 + 2 * bytes.u2(at + 2);
            }
            if (part < 0 || part > bytes.u2(at + 2)) {
                return -1;
            }
            return bytes.u2(part == 0 ? at : at + 2 + 2 * part);
        }
    }

    /** Takes a file apart from its front to its end (rules 1 to 8). */
    private static final class Reader {
        private static final int MAGIC = 0xCAFEBABE;

        private final ClassFile file;
        private final Bytes bytes;
        private final Verdict verdict;
        private int at;
        private int item;

        Reader(ClassFile file, Verdict verdict) {
            this.file = file;
            this.verdict = verdict;
            bytes = file.bytes;
        }

        /** Takes one item of so many bytes. */
        private boolean takes(int size) {
            if (size > bytes.size() - at) {
                return verdict.wrong(1, at);
            }
            if (size == 1) {
                item = bytes.u1(at);
            } else {
                item = size == 2 ? bytes.u2(at) : bytes.u4(at);
            }
            at += size;
            return true;
        }

        boolean takesHead() {
            if (!takes(4)) {
                return false;
            }
            if (item != MAGIC) {
                return verdict.wrong(2, 0);
            }
            if (!takes(2)) {
                return false;
            }
            file.minor = item;
            if (!takes(2)) {
                return false;
            }
            file.major = item;
            if (item < 45 || item > 61 || item >= 56 && file.minor != 0) {
                return verdict.wrong(3, 4);
            }
            return true;
        }

        boolean takesPool() {
            int countAt = at;
            if (!takes(2)) {
                return false;
            }
            if (item == 0) {
                return verdict.wrong(4, countAt);
            }
            Pool pool = new Pool(item, bytes.size());
            file.pool = pool;
            for (int k = 1; k < pool.size; k += pool.isWide(k) ? 2 : 1) {
                if (!takesEntry(k)) {
                    return false;
                }
            }
            return true;
        }

        private boolean takesEntry(int k) {
            int tagAt = at;
            if (!takes(1)) {
                return false;
            }
            int tag = item;
            if (!isTag(tag)) {
                return verdict.wrong(5, tagAt);
            }
            if ((tag == LONG || tag == DOUBLE) && k + 1 >= file.pool.size) {
                return verdict.wrong(7, tagAt);
            }
            file.pool.setTag(k, tag, tagAt);
            switch (tag) {
                case UTF8:
                    return takesText(k);
                case INTEGER:
                case FLOAT:
                    return takes(4);
                case LONG:
                case DOUBLE:
                    return takes(4) && takes(4);
                default:
                    return takesIndexes(k, tag);
            }
        }

        private boolean isTag(int tag) {
            switch (tag) {
                case METHOD_HANDLE:
                case METHOD_TYPE:
                case INVOKE_DYNAMIC:
                    return file.major >= 51;
                case MODULE:
                case PACKAGE:
                    return file.major >= 53;
                case DYNAMIC:
                    return file.major >= 55;
                default:
                    return tag == UTF8 || tag >= INTEGER && tag <= NAME_AND_TYPE;
            }
        }

        private boolean takesIndexes(int k, int tag) {
            if (!takes(tag == METHOD_HANDLE ? 1 : 2)) {
                return false;
            }
            int first = item;
            int second = 0;
            if (tag != CLASS && tag != STRING && tag != METHOD_TYPE && tag != MODULE && tag != PACKAGE) {
                if (!takes(2)) {
                    return false;
                }
                second = item;
            }
            file.pool.setNumbers(k, first, second);
            return true;
        }

        private boolean takesText(int k) {
            if (!takes(2)) {
                return false;
            }
            if (item > bytes.size() - at) {
                return verdict.wrong(1, at);
            }
            int end = at + item;
            int from = file.pool.characterCount;
            while (at < end) {
                int size = characterSize(end);
                if (size < 1) {
                    return verdict.wrong(6, at);
                }
                file.pool.addCharacter(characterOf(size));
                at += size;
            }
            file.pool.setNumbers(k, from, file.pool.characterCount - from);
            return true;
        }

        /** How many bytes the character has that begins here; 0 if none does. */
        private int characterSize(int end) {
            int lead = bytes.u1(at);
            if (lead < 128) {
                return lead == 0 ? 0 : 1;
            }
            if (lead < 192 || lead >= 240 || !bytes.goesOn(at + 1, end)) {
                return 0;
            }
            if (lead < 224) {
                return 2;
            }
            return bytes.goesOn(at + 2, end) ? 3 : 0;
        }

        private int characterOf(int size) {
            int lead = bytes.u1(at);
            if (size == 1) {
                return lead;
            }
            if (size == 2) {
                return (lead & 31) << 6 | bytes.u1(at + 1) & 63;
            }
            return (lead & 15) << 12 | (bytes.u1(at + 1) & 63) << 6 | bytes.u1(at + 2) & 63;
        }

        boolean takesClass() {
            file.flagsAt = at;
            if (!takes(2) || !takes(2) || !takes(2) || !takes(2)) {
                return false;
            }
            int number = item;
            for (int i = 0; i < number; i++) {
                if (!takes(2)) {
                    return false;
                }
            }
            file.interfaceCount = number;
            return true;
        }

        boolean takesFields() {
            if (!takes(2)) {
                return false;
            }
            file.fields = new Member[roomFor(item)];
            return takesMembers(file.fields, item);
        }

        boolean takesMethods() {
            if (!takes(2)) {
                return false;
            }
            file.methods = new Member[roomFor(item)];
            return takesMembers(file.methods, item);
        }

        /** No member has fewer than eight bytes, so a false count cannot make a long row. */
        private int roomFor(int number) {
            return Math.max(0, Math.min(number, (bytes.size() - at) / 8));
        }

        private boolean takesMembers(Member[] members, int number) {
            for (int i = 0; i < number; i++) {
                int begin = at;
                if (!takes(2) || !takes(2) || !takes(2) || !takesAttributes()) {
                    return false;
                }
                if (i < members.length) {
                    members[i] = new Member(bytes, begin);
                }
            }
            return true;
        }

        private boolean takesAttributes() {
            if (!takes(2)) {
                return false;
            }
            int number = item;
            for (int i = 0; i < number; i++) {
                if (!takes(2) || !takes(4)) {
                    return false;
                }
                if (item < 0 || item > bytes.size() - at) {
                    return verdict.wrong(1, at);
                }
                at += item;
            }
            return true;
        }

        boolean takesEnd() {
            file.attributeCount = bytes.u2(at);
            file.attributesAt = at + 2;
            if (!takesAttributes()) {
                return false;
            }
            return at == bytes.size() || verdict.wrong(8, at);
        }
    }

    /** Checks the pool's entries (rules 9 to 14, and 40). */
    private static final class PoolCheck {
        private final Pool pool;
        private final int major;
        private final Verdict verdict;

        PoolCheck(ClassFile file, Verdict verdict) {
            pool = file.pool;
            major = file.major;
            this.verdict = verdict;
        }

        boolean entriesHold() {
            for (int k = 1; k < pool.size; k++) {
                int broken = linksHold(k) ? brokenRule(k) : 9;
                if (broken != 0) {
                    return verdict.wrong(broken, pool.tagPlace(k));
                }
            }
            return true;
        }

        boolean bootstrapsHold(int bootstrapCount) {
            for (int k = 1; k < pool.size; k++) {
                int tag = pool.tagOf(k);
                if ((tag == DYNAMIC || tag == INVOKE_DYNAMIC) && pool.firstIndex(k) >= bootstrapCount) {
                    return verdict.wrong(40, pool.tagPlace(k));
                }
            }
            return true;
        }

        private boolean linksHold(int k) {
            switch (pool.tagOf(k)) {
                case CLASS:
                case STRING:
                case METHOD_TYPE:
                case MODULE:
                case PACKAGE:
                    return pool.tagOf(pool.firstIndex(k)) == UTF8;
                case NAME_AND_TYPE:
                    return pairHolds(k);
                case FIELD_REF:
                case METHOD_REF:
                case INTERFACE_METHOD_REF:
                    return memberHolds(k);
                case METHOD_HANDLE:
                    int named = pool.secondIndex(k);
                    return isMember(named) ? memberHolds(named) : pool.tagOf(named) != 0;
                case DYNAMIC:
                case INVOKE_DYNAMIC:
                    return pairHolds(pool.secondIndex(k));
                default:
                    return true;
            }
        }

        private boolean isMember(int k) {
            int tag = pool.tagOf(k);
            return tag == FIELD_REF || tag == METHOD_REF || tag == INTERFACE_METHOD_REF;
        }

        private boolean memberHolds(int k) {
            int owner = pool.firstIndex(k);
            return pool.tagOf(owner) == CLASS
                    && pool.tagOf(pool.firstIndex(owner)) == UTF8
                    && pairHolds(pool.secondIndex(k));
        }

        private boolean pairHolds(int k) {
            return pool.tagOf(k) == NAME_AND_TYPE
                    && pool.tagOf(pool.firstIndex(k)) == UTF8
                    && pool.tagOf(pool.secondIndex(k)) == UTF8;
        }

        /** The rule of 10 to 14 that an entry breaks whose links hold; 0 if it breaks none. */
        private int brokenRule(int k) {
            switch (pool.tagOf(k)) {
                case CLASS:
                    return pool.isClassText(pool.firstIndex(k)) ? 0 : 10;
                case NAME_AND_TYPE:
                    return isNameWithType(k) ? 0 : 11;
                case FIELD_REF:
                    return pool.isFieldDescriptor(pool.descriptorOf(k)) ? 0 : 12;
                case METHOD_REF:
                case INTERFACE_METHOD_REF:
                    return isMethodRef(k) ? 0 : 12;
                case METHOD_HANDLE:
                    return isHandle(pool.firstIndex(k), pool.secondIndex(k)) ? 0 : 13;
                case METHOD_TYPE:
                    return pool.isMethodDescriptor(pool.firstIndex(k)) ? 0 : 14;
                case DYNAMIC:
                    return pool.isFieldDescriptor(pool.descriptorOf(k)) && !pool.hasAngle(pool.nameOf(k)) ? 0 : 14;
                case INVOKE_DYNAMIC:
                    return pool.isMethodDescriptor(pool.descriptorOf(k)) && !pool.hasAngle(pool.nameOf(k)) ? 0 : 14;
                default:
                    return 0;
            }
        }

        private boolean isNameWithType(int k) {
            int type = pool.secondIndex(k);
            return pool.isUnqualifiedName(pool.firstIndex(k))
                    && (pool.isFieldDescriptor(type) || pool.isMethodDescriptor(type));
        }

        private boolean isMethodRef(int k) {
            int descriptor = pool.descriptorOf(k);
            if (!pool.isMethodDescriptor(descriptor)) {
                return false;
            }
            if (!pool.hasAngle(pool.nameOf(k))) {
                return true;
            }
            return pool.tagOf(k) == METHOD_REF && pool.namesInit(k) && pool.hasNoResult(descriptor);
        }

        private boolean isHandle(int kind, int named) {
            int tag = pool.tagOf(named);
            switch (kind) {
                case 1:
                case 2:
                case 3:
                case 4:
                    return tag == FIELD_REF;
                case 5:
                    return tag == METHOD_REF && !pool.namesInit(named);
                case 6:
                case 7:
                    return (tag == METHOD_REF || tag == INTERFACE_METHOD_REF && major >= 52) && !pool.namesInit(named);
                case 8:
                    return tag == METHOD_REF && pool.namesInit(named);
                case 9:
                    return tag == INTERFACE_METHOD_REF && !pool.namesInit(named);
                default:
                    return false;
            }
        }
    }

    /** Checks the class and its members (rules 15 to 27). */
    private static final class ClassCheck {
        private final ClassFile file;
        private final Bytes bytes;
        private final Pool pool;
        private final Verdict verdict;
        private final AttributeCheck attributeCheck;

        ClassCheck(ClassFile file, Verdict verdict, AttributeCheck attributeCheck) {
            this.file = file;
            this.verdict = verdict;
            this.attributeCheck = attributeCheck;
            bytes = file.bytes;
            pool = file.pool;
        }

        boolean headHolds() {
            int at = file.flagsAt;
            if (!classFlagsHold(bytes.u2(at))) {
                return verdict.wrong(15, at);
            }
            if (!pool.isPlainClass(bytes.u2(at + 2))) {
                return verdict.wrong(16, at + 2);
            }
            int above = bytes.u2(at + 4);
            if (!pool.isPlainClass(above)) {
                return verdict.wrong(17, at + 4);
            }
            if (file.has(ACC_INTERFACE) && !pool.textIs(pool.firstIndex(above), "java/lang/Object")) {
                return verdict.wrong(17, at + 4);
            }
            return true;
        }

        private static boolean classFlagsHold(int flags) {
            if ((flags & ACC_MODULE) != 0) {
                return false;
            }
            if ((flags & ACC_INTERFACE) != 0) {
                return (flags & ACC_ABSTRACT) != 0 && (flags & (ACC_FINAL | ACC_SUPER | ACC_ENUM)) == 0;
            }
            return (flags & ACC_ANNOTATION) == 0 && !hasAll(flags, ACC_FINAL | ACC_ABSTRACT);
        }

        private static boolean hasAll(int flags, int wanted) {
            return (flags & wanted) == wanted;
        }

        boolean interfacesHold() {
            int from = file.flagsAt + 8;
            for (int i = 0; i < file.interfaceCount; i++) {
                int one = bytes.u2(from + 2 * i);
                if (!pool.isPlainClass(one)) {
                    return verdict.wrong(18, from + 2 * i);
                }
                for (int j = 0; j < i; j++) {
                    int before = bytes.u2(from + 2 * j);
                    if (pool.sameText(pool.firstIndex(before), pool.firstIndex(one))) {
                        return verdict.wrong(18, from + 2 * i);
                    }
                }
            }
            return true;
        }

        boolean fieldsHold() {
            for (int i = 0; i < file.fields.length; i++) {
                Member field = file.fields[i];
                if (field == null) {
                    continue;
                }
                if (!fieldHolds(field, i) || !attributeCheck.ofField(field)) {
                    return false;
                }
            }
            return true;
        }

        private boolean fieldHolds(Member field, int i) {
            if (!fieldFlagsHold(field.flags)) {
                return verdict.wrong(19, field.begin);
            }
            if (!pool.isUnqualifiedName(field.name)) {
                return verdict.wrong(20, field.begin + 2);
            }
            if (!pool.isFieldDescriptor(field.descriptor)) {
                return verdict.wrong(21, field.begin + 4);
            }
            if (pool.sameMember(file.fields, i, field.name, field.descriptor) >= 0) {
                return verdict.wrong(22, field.begin);
            }
            return true;
        }

        private boolean fieldFlagsHold(int flags) {
            if (file.has(ACC_INTERFACE)) {
                int looked = ACC_PUBLIC | ACC_PRIVATE | ACC_PROTECTED | ACC_STATIC | ACC_FINAL
                        | ACC_VOLATILE | ACC_TRANSIENT | ACC_ENUM;
                return (flags & looked) == (ACC_PUBLIC | ACC_STATIC | ACC_FINAL);
            }
            return hasOneAccessAtMost(flags) && !hasAll(flags, ACC_FINAL | ACC_VOLATILE);
        }

        private static boolean hasOneAccessAtMost(int flags) {
            return Integer.bitCount(flags & (ACC_PUBLIC | ACC_PRIVATE | ACC_PROTECTED)) <= 1;
        }

        boolean methodsHold() {
            for (int i = 0; i < file.methods.length; i++) {
                Member method = file.methods[i];
                if (method == null) {
                    continue;
                }
                if (!methodHolds(method, i) || !attributeCheck.ofMethod(method) || !codeIsDue(method)) {
                    return false;
                }
            }
            return true;
        }

        private boolean methodHolds(Member method, int i) {
            if (!methodNameHolds(method.name)) {
                return verdict.wrong(24, method.begin + 2);
            }
            if (!methodFlagsHold(method)) {
                return verdict.wrong(23, method.begin);
            }
            method.argumentPlaces = pool.argumentPlaces(method.descriptor) + (method.has(ACC_STATIC) ? 0 : 1);
            if (!methodDescriptorHolds(method)) {
                return verdict.wrong(25, method.begin + 4);
            }
            if (pool.sameMember(file.methods, i, method.name, method.descriptor) >= 0) {
                return verdict.wrong(26, method.begin);
            }
            return true;
        }

        private boolean methodNameHolds(int name) {
            if (pool.textIs(name, "<init>")) {
                return !file.has(ACC_INTERFACE);
            }
            return pool.textIs(name, "<clinit>") || pool.isUnqualifiedName(name) && !pool.hasAngle(name);
        }

        private boolean methodFlagsHold(Member method) {
            if (pool.textIs(method.name, "<clinit>")) {
                return true;
            }
            if (pool.textIs(method.name, "<init>")) {
                int ruledOut = ACC_STATIC | ACC_FINAL | ACC_SYNCHRONIZED | ACC_BRIDGE | ACC_NATIVE | ACC_ABSTRACT;
                return hasOneAccessAtMost(method.flags) && !method.has(ruledOut);
            }
            if (method.has(ACC_ABSTRACT) && !abstractHolds(method)) {
                return false;
            }
            return file.has(ACC_INTERFACE) ? interfaceMethodHolds(method) : hasOneAccessAtMost(method.flags);
        }

        private boolean abstractHolds(Member method) {
            if (method.has(ACC_PRIVATE | ACC_STATIC | ACC_FINAL | ACC_SYNCHRONIZED | ACC_NATIVE)) {
                return false;
            }
            return file.major < 46 || file.major > 60 || !method.has(ACC_STRICT);
        }

        private boolean interfaceMethodHolds(Member method) {
            if (method.has(ACC_PROTECTED | ACC_FINAL | ACC_SYNCHRONIZED | ACC_NATIVE)) {
                return false;
            }
            if (file.major < 52) {
                return hasAll(method.flags, ACC_PUBLIC | ACC_ABSTRACT) && !method.has(ACC_STATIC);
            }
            return method.has(ACC_PUBLIC) != method.has(ACC_PRIVATE);
        }

        private boolean methodDescriptorHolds(Member method) {
            if (!pool.isMethodDescriptor(method.descriptor) || method.argumentPlaces > 255) {
                return false;
            }
            return !pool.textIs(method.name, "<init>") || pool.hasNoResult(method.descriptor);
        }

        private boolean codeIsDue(Member method) {
            boolean isDue = pool.textIs(method.name, "<clinit>") || !method.has(ACC_NATIVE | ACC_ABSTRACT);
            return isDue == (method.code != null) || verdict.wrong(27, method.begin);
        }
    }

    /** Checks attributes (rules 28 to 38 and 41 to 43) and notes what they hold. */
    private static final class AttributeCheck {
        private static final int UNKNOWN = 0;
        private static final int WRONG = -1;
        private static final int METHOD_KINDS = 1 << CODE | 1 << EXCEPTIONS;

        private final ClassFile file;
        private final Bytes bytes;
        private final Pool pool;
        private final Verdict verdict;
        private int seen;

        AttributeCheck(ClassFile file, Verdict verdict) {
            this.file = file;
            this.verdict = verdict;
            bytes = file.bytes;
            pool = file.pool;
        }

        boolean ofField(Member field) {
            seen = 0;
            int at = field.attributesAt;
            for (int i = 0; i < field.attributeCount; i++) {
                int kind = pool.textIs(bytes.u2(at), "ConstantValue") ? CONSTANT_VALUE : UNKNOWN;
                if (!isNew(at, kind)) {
                    return false;
                }
                if (kind != UNKNOWN && formEnd(kind, at + 6, behind(at)) != behind(at)) {
                    return verdict.wrong(30, at);
                }
                if (kind == CONSTANT_VALUE && field.has(ACC_STATIC)) {
                    field.constant = bytes.u2(at + 6);
                    if (pool.tagOf(field.constant) != constantTag(field.descriptor)) {
                        return verdict.wrong(31, at);
                    }
                }
                at = behind(at);
            }
            field.known = Integer.bitCount(seen);
            return true;
        }

        boolean ofMethod(Member method) {
            seen = 0;
            int at = method.attributesAt;
            for (int i = 0; i < method.attributeCount; i++) {
                int kind = methodKind(bytes.u2(at));
                if (!isNew(at, kind)) {
                    return false;
                }
                if (kind != UNKNOWN && formEnd(kind, at + 6, behind(at)) != behind(at)) {
                    return verdict.wrong(30, at);
                }
                if (kind == CODE && !codeHolds(method, at)) {
                    return false;
                }
                if (kind == EXCEPTIONS) {
                    method.exceptionCount = bytes.u2(at + 6);
                    if (!areClasses(at)) {
                        return verdict.wrong(32, at);
                    }
                }
                at = behind(at);
            }
            // A StackMapTable of the method's only Code is seen too, but is none of the method's own.
            method.known = Integer.bitCount(seen & METHOD_KINDS);
            return true;
        }

        boolean ofClass() {
            seen = 0;
            int at = file.attributesAt;
            for (int i = 0; i < file.attributeCount; i++) {
                int kind = classKind(bytes.u2(at));
                if (!isNew(at, kind)) {
                    return false;
                }
                if (kind != UNKNOWN && formEnd(kind, at + 6, behind(at)) != behind(at)) {
                    return verdict.wrong(30, at);
                }
                int broken = brokenRule(kind, at);
                if (broken != 0) {
                    return broken < 0 ? false : verdict.wrong(broken, at);
                }
                at = behind(at);
            }
            file.known = Integer.bitCount(seen);
            return true;
        }

        private int behind(int at) {
            return at + 6 + bytes.u4(at + 2);
        }

        private int methodKind(int name) {
            if (pool.textIs(name, "Code")) {
                return CODE;
            }
            return pool.textIs(name, "Exceptions") ? EXCEPTIONS : UNKNOWN;
        }

        private int classKind(int name) {
            if (pool.textIs(name, "InnerClasses")) {
                return INNER_CLASSES;
            }
            if (file.major >= 51 && pool.textIs(name, "BootstrapMethods")) {
                return BOOTSTRAP_METHODS;
            }
            if (file.major >= 55 && pool.textIs(name, "NestHost")) {
                return NEST_HOST;
            }
            if (file.major >= 55 && pool.textIs(name, "NestMembers")) {
                return NEST_MEMBERS;
            }
            if (file.major >= 60 && pool.textIs(name, "Record")) {
                return RECORD;
            }
            if (file.major >= 61 && pool.textIs(name, "PermittedSubclasses")) {
                return PERMITTED_SUBCLASSES;
            }
            return UNKNOWN;
        }

        private boolean hasSeen(int kind) {
            return (seen >> kind & 1) != 0;
        }

        /** Rules 28 and 29. */
        private boolean isNew(int at, int kind) {
            if (pool.tagOf(bytes.u2(at)) != UTF8) {
                return verdict.wrong(28, at);
            }
            if (kind == UNKNOWN) {
                return true;
            }
            if (hasSeen(kind)) {
                return verdict.wrong(29, at);
            }
            seen |= 1 << kind;
            return true;
        }

        /** Where the form of a known attribute ends; -1 or beyond the end if that needs more bytes. */
        private int formEnd(int kind, int body, int end) {
            if (end - body < 2) {
                return -1;
            }
            switch (kind) {
                case CONSTANT_VALUE:
                case NEST_HOST:
                    return body + 2;
                case EXCEPTIONS:
                case NEST_MEMBERS:
                case PERMITTED_SUBCLASSES:
                    return body + 2 + 2 * bytes.u2(body);
                case INNER_CLASSES:
                    return body + 2 + 8 * bytes.u2(body);
                case BOOTSTRAP_METHODS:
                    return bootstrapsEnd(body, end);
                case RECORD:
                    return recordEnd(body, end);
                default:
                    return codeEnd(body, end);
            }
        }

        private int bootstrapsEnd(int body, int end) {
            int number = bytes.u2(body);
            int at = body + 2;
            for (int i = 0; i < number; i++) {
                if (end - at < 4) {
                    return -1;
                }
                at += 4 + 2 * bytes.u2(at + 2);
            }
            return at;
        }

        private int recordEnd(int body, int end) {
            int number = bytes.u2(body);
            int at = body + 2;
            for (int i = 0; i < number; i++) {
                if (end - at < 6) {
                    return -1;
                }
                at = bytes.attributesEnd(at + 6, bytes.u2(at + 4), end);
                if (at < 0) {
                    return -1;
                }
            }
            return at;
        }

        private int codeEnd(int body, int end) {
            if (end - body < 8) {
                return -1;
            }
            int length = bytes.u4(body + 4);
            if (length < 0 || length > end - body - 8) {
                return -1;
            }
            int table = body + 8 + length;
            if (end - table < 2 || end - table - 2 < 8 * bytes.u2(table)) {
                return -1;
            }
            int behindTable = table + 2 + 8 * bytes.u2(table);
            if (end - behindTable < 2) {
                return -1;
            }
            return bytes.attributesEnd(behindTable + 2, bytes.u2(behindTable), end);
        }

        /** The tag that 4.7.2 has for a field's descriptor; -1, which no entry has, for others. */
        private int constantTag(int descriptor) {
            if (pool.textIs(descriptor, "Ljava/lang/String;")) {
                return STRING;
            }
            if (pool.textLength(descriptor) != 1) {
                return -1;
            }
            switch (pool.characterAt(descriptor, 0)) {
                case 'F':
                    return FLOAT;
                case 'J':
                    return LONG;
                case 'D':
                    return DOUBLE;
                default:
                    return INTEGER;
            }
        }

        /** Whether all indexes of an attribute that is a table of them are those of Class entries. */
        private boolean areClasses(int at) {
            int number = bytes.u2(at + 6);
            for (int i = 0; i < number; i++) {
                if (pool.tagOf(bytes.u2(at + 8 + 2 * i)) != CLASS) {
                    return false;
                }
            }
            return true;
        }

        /** The rule of 33 to 38 that a class's attribute breaks, 0 if none, WRONG if the verdict is there already. */
        private int brokenRule(int kind, int at) {
            switch (kind) {
                case INNER_CLASSES:
                    file.innerCount = bytes.u2(at + 6);
                    return innerClassesHold(at) ? 0 : 33;
                case NEST_HOST:
                    return pool.tagOf(bytes.u2(at + 6)) == CLASS && !hasSeen(NEST_MEMBERS) ? 0 : 34;
                case NEST_MEMBERS:
                    file.nestCount = bytes.u2(at + 6);
                    return areClasses(at) && !hasSeen(NEST_HOST) ? 0 : 35;
                case PERMITTED_SUBCLASSES:
                    file.permittedCount = bytes.u2(at + 6);
                    return areClasses(at) && !file.has(ACC_FINAL) ? 0 : 36;
                case RECORD:
                    file.recordCount = bytes.u2(at + 6);
                    return recordHolds(at) ? 0 : WRONG;
                case BOOTSTRAP_METHODS:
                    file.bootstrapCount = bytes.u2(at + 6);
                    file.bootstrapsAt = at + 8;
                    return bootstrapsHold() ? 0 : 38;
                default:
                    return 0;
            }
        }

        private boolean innerClassesHold(int at) {
            for (int i = 0; i < file.innerCount; i++) {
                int row = at + 8 + 8 * i;
                int outer = bytes.u2(row + 2);
                int name = bytes.u2(row + 4);
                if (pool.tagOf(bytes.u2(row)) != CLASS
                        || outer != 0 && pool.tagOf(outer) != CLASS
                        || name != 0 && pool.tagOf(name) != UTF8) {
                    return false;
                }
            }
            return true;
        }

        private boolean recordHolds(int at) {
            int part = at + 8;
            for (int i = 0; i < file.recordCount; i++) {
                if (!pool.isUnqualifiedName(bytes.u2(part)) || !pool.isFieldDescriptor(bytes.u2(part + 2))) {
                    return verdict.wrong(37, at);
                }
                int number = bytes.u2(part + 4);
                part += 6;
                for (int j = 0; j < number; j++) {
                    if (!isNew(part, UNKNOWN)) {
                        return false;
                    }
                    part = behind(part);
                }
            }
            return true;
        }

        private boolean bootstrapsHold() {
            int at = file.bootstrapsAt;
            for (int i = 0; i < file.bootstrapCount; i++) {
                if (pool.tagOf(bytes.u2(at)) != METHOD_HANDLE) {
                    return false;
                }
                int number = bytes.u2(at + 2);
                at += 4;
                for (int j = 0; j < number; j++) {
                    if (!isLoadable(pool.tagOf(bytes.u2(at)))) {
                        return false;
                    }
                    at += 2;
                }
            }
            return true;
        }

        private static boolean isLoadable(int tag) {
            return tag >= INTEGER && tag <= STRING || tag >= METHOD_HANDLE && tag <= DYNAMIC;
        }

        private boolean codeHolds(Member method, int at) {
            Code code = new Code(file, at + 6);
            if (code.length < 1 || code.length > 65535) {
                return verdict.wrong(41, at);
            }
            if (code.maxLocals < method.argumentPlaces) {
                return verdict.wrong(42, at);
            }
            for (int i = 0; i < code.rowCount; i++) {
                if (!rowHolds(code, code.rowsAt + 8 * i)) {
                    return verdict.wrong(43, at);
                }
            }
            method.code = code;
            return codeAttributesHold(code.rowsAt + 8 * code.rowCount);
        }

        private boolean rowHolds(Code code, int row) {
            int endPc = bytes.u2(row + 2);
            int caught = bytes.u2(row + 6);
            return bytes.u2(row) < endPc
                    && endPc <= code.length
                    && bytes.u2(row + 4) < code.length
                    && (caught == 0 || pool.tagOf(caught) == CLASS);
        }

        private boolean codeAttributesHold(int countAt) {
            int number = bytes.u2(countAt);
            int at = countAt + 2;
            for (int i = 0; i < number; i++) {
                boolean isMap = file.major >= 50 && pool.textIs(bytes.u2(at), "StackMapTable");
                if (!isNew(at, isMap ? STACK_MAP_TABLE : UNKNOWN)) {
                    return false;
                }
                at = behind(at);
            }
            return true;
        }
    }

    /** The code of a method, cut into instructions when it is first asked for them. */
    private static final class Code {
        private static final int NOT_CUT = 0;

        final int maxStack;
        final int maxLocals;
        final int length;
        final int rowsAt;
        final int rowCount;
        private final Pool pool;
        private final int major;
        private final Instruction one;
        private int cutResult;
        private int[] starts;
        private int[] numbers;

        Code(ClassFile file, int body) {
            Bytes bytes = file.bytes;
            maxStack = bytes.u2(body);
            maxLocals = bytes.u2(body + 2);
            length = bytes.u4(body + 4);
            rowsAt = body + 8 + length + 2;
            rowCount = bytes.u2(rowsAt - 2);
            pool = file.pool;
            major = file.major;
            one = new Instruction(bytes, body + 8, length);
            cutResult = NOT_CUT;
        }

        /** How many instructions there are, or minus 2 and the place of the one that is wrong. */
        int cutUp() {
            if (cutResult != NOT_CUT) {
                return cutResult;
            }
            int room = Math.max(0, length);
            starts = new int[room];
            numbers = new int[room];
            int number = 0;
            for (int pc = 0; pc < room && number < room; pc += one.size) {
                if (!one.isTakenApart(pc) || !operandsHold()) {
                    cutResult = -2 - pc;
                    return cutResult;
                }
                starts[number] = pc;
                number++;
                // One more than the instruction's own number: 0 is where none begins.
                numbers[pc] = number;
            }
            cutResult = number;
            for (int k = 0; k < number && cutResult == number; k++) {
                if (one.isTakenApart(starts[k]) && !targetsHold()) {
                    cutResult = -2 - starts[k];
                }
            }
            return cutResult;
        }

        private int startOf(int k) {
            return starts == null || k < 0 || k >= starts.length ? 0 : starts[k];
        }

        /** The number of the instruction that begins at a place of the code; -1 if none does. */
        private int numberAt(long target) {
            return numbers == null || target < 0 || target >= numbers.length ? -1 : numbers[(int) target] - 1;
        }

        int number(int k, int what) {
            int pc = startOf(k);
            if (!one.isTakenApart(pc)) {
                return -1;
            }
            switch (what) {
                case 0:
                    return one.opcode;
                case 1:
                    return pc;
                case 2:
                    return one.isJump() ? numberAt(one.target(0)) : one.first;
                case 3:
                    return one.second;
                default:
                    return one.isSwitch() ? one.targetCount : 0;
            }
        }

        int switchPlace(int k, int i, boolean isKey) {
            if (!one.isTakenApart(startOf(k)) || !one.isSwitch() || i < 0 || i >= one.targetCount) {
                return -1;
            }
            return isKey ? one.keyOf(i) : numberAt(one.target(i));
        }

        private boolean targetsHold() {
            for (int i = 0; i < one.targetCount; i++) {
                if (numberAt(one.target(i)) < 0) {
                    return false;
                }
            }
            return true;
        }

        private boolean operandsHold() {
            if (one.localPlaces > 0) {
                boolean isRuledOut = one.opcode == Instruction.RET && major >= 51;
                return !isRuledOut && one.first + one.localPlaces <= maxLocals;
            }
            switch (one.opcode) {
                case Instruction.JSR:
                    return major < 51;
                case Instruction.NEWARRAY:
                    return one.first >= 4 && one.first <= 11;
                case Instruction.LDC:
                    return isLoadedByLdc(pool.tagOf(one.first));
                case Instruction.LDC2_W:
                    return isOfTwoPlaces(pool.tagOf(one.first));
                case Instruction.GETSTATIC:
                case Instruction.PUTSTATIC:
                case Instruction.GETFIELD:
                case Instruction.PUTFIELD:
                    return pool.tagOf(one.first) == FIELD_REF;
                case Instruction.NEW:
                    return pool.isPlainClass(one.first);
                case Instruction.ANEWARRAY:
                    // The array that is made has one dimension more, and 255 at most (4.9.1).
                    return pool.tagOf(one.first) == CLASS && pool.dimensionsOf(one.first) < 255;
                case Instruction.CHECKCAST:
                case Instruction.INSTANCEOF:
                    return pool.tagOf(one.first) == CLASS;
                case Instruction.MULTIANEWARRAY:
                    return pool.tagOf(one.first) == CLASS
                            && one.second >= 1
                            && one.second <= pool.dimensionsOf(one.first);
                default:
                    return callHolds(pool.tagOf(one.first));
            }
        }

        private boolean callHolds(int tag) {
            switch (one.opcode) {
                case Instruction.INVOKEVIRTUAL:
                    return tag == METHOD_REF && !pool.namesInit(one.first);
                case Instruction.INVOKESPECIAL:
                    return isMethodOfEither(tag);
                case Instruction.INVOKESTATIC:
                    return isMethodOfEither(tag) && !pool.namesInit(one.first);
                case Instruction.INVOKEINTERFACE:
                    return tag == INTERFACE_METHOD_REF
                            && one.second == pool.argumentPlaces(pool.descriptorOf(one.first)) + 1;
                case Instruction.INVOKEDYNAMIC:
                    return tag == INVOKE_DYNAMIC;
                default:
                    return true;
            }
        }

        private boolean isMethodOfEither(int tag) {
            return tag == METHOD_REF || tag == INTERFACE_METHOD_REF && major >= 52;
        }

        private boolean isLoadedByLdc(int tag) {
            switch (tag) {
                case INTEGER:
                case FLOAT:
                case STRING:
                    return true;
                case CLASS:
                    return major >= 49;
                case METHOD_HANDLE:
                case METHOD_TYPE:
                    return major >= 51;
                case DYNAMIC:
                    return major >= 55 && pool.placesTold(pool.descriptorOf(one.first)) == 1;
                default:
                    return false;
            }
        }

        private boolean isOfTwoPlaces(int tag) {
            return tag == LONG || tag == DOUBLE
                    || tag == DYNAMIC && pool.placesTold(pool.descriptorOf(one.first)) == 2;
        }
    }

    /** One instruction of a code, taken apart; long and short forms are told as what they are forms of. */
    private static final class Instruction {
        static final int BIPUSH = 16;
        static final int SIPUSH = 17;
        static final int LDC = 18;
        static final int LDC_W = 19;
        static final int LDC2_W = 20;
        static final int ILOAD = 21;
        static final int LLOAD = 22;
        static final int DLOAD = 24;
        static final int ALOAD = 25;
        static final int ILOAD_0 = 26;
        static final int ALOAD_3 = 45;
        static final int ISTORE = 54;
        static final int LSTORE = 55;
        static final int DSTORE = 57;
        static final int ASTORE = 58;
        static final int ISTORE_0 = 59;
        static final int ASTORE_3 = 78;
        static final int IINC = 132;
        static final int IFEQ = 153;
        static final int GOTO = 167;
        static final int JSR = 168;
        static final int RET = 169;
        static final int TABLESWITCH = 170;
        static final int LOOKUPSWITCH = 171;
        static final int GETSTATIC = 178;
        static final int PUTSTATIC = 179;
        static final int GETFIELD = 180;
        static final int PUTFIELD = 181;
        static final int INVOKEVIRTUAL = 182;
        static final int INVOKESPECIAL = 183;
        static final int INVOKESTATIC = 184;
        static final int INVOKEINTERFACE = 185;
        static final int INVOKEDYNAMIC = 186;
        static final int NEW = 187;
        static final int NEWARRAY = 188;
        static final int ANEWARRAY = 189;
        static final int CHECKCAST = 192;
        static final int INSTANCEOF = 193;
        static final int WIDE = 196;
        static final int MULTIANEWARRAY = 197;
        static final int IFNULL = 198;
        static final int IFNONNULL = 199;
        static final int GOTO_W = 200;
        static final int JSR_W = 201;

        private final Bytes bytes;
        private final int codeAt;
        private final int codeLength;
        int opcode;
        int size;
        int first;
        int second;
        int localPlaces;
        int targetCount;
        private int pc;
        private int offset;
        private int switchAt;

        Instruction(Bytes bytes, int codeAt, int codeLength) {
            this.bytes = bytes;
            this.codeAt = codeAt;
            this.codeLength = codeLength;
        }

        boolean isSwitch() {
            return opcode == TABLESWITCH || opcode == LOOKUPSWITCH;
        }

        boolean isJump() {
            return targetCount > 0 && !isSwitch();
        }

        private int u1(int at) {
            return bytes.u1(codeAt + at);
        }

        private int u2(int at) {
            return bytes.u2(codeAt + at);
        }

        private int s4(int at) {
            return bytes.u4(codeAt + at);
        }

        /** Takes apart what begins at a place of the code; false if that is no instruction by its form. */
        boolean isTakenApart(int at) {
            pc = at;
            opcode = u1(at);
            size = 1;
            first = 0;
            second = 0;
            localPlaces = 0;
            targetCount = 0;
            if (at < 0 || at >= codeLength || opcode > JSR_W) {
                return false;
            }
            if (isSwitch()) {
                return isSwitchTaken();
            }
            if (opcode == WIDE) {
                return isWideTaken();
            }
            size = sizeOf(opcode);
            return size <= codeLength - pc && areOperandsTaken();
        }

        private static int sizeOf(int opcode) {
            if (opcode >= IFEQ && opcode <= JSR || opcode >= GETSTATIC && opcode <= INVOKESTATIC) {
                return 3;
            }
            if (isLocalOpcode(opcode)) {
                return 2;
            }
            switch (opcode) {
                case BIPUSH:
                case LDC:
                case NEWARRAY:
                    return 2;
                case SIPUSH:
                case LDC_W:
                case LDC2_W:
                case IINC:
                case NEW:
                case ANEWARRAY:
                case CHECKCAST:
                case INSTANCEOF:
                case IFNULL:
                case IFNONNULL:
                    return 3;
                case MULTIANEWARRAY:
                    return 4;
                case INVOKEINTERFACE:
                case INVOKEDYNAMIC:
                case GOTO_W:
                case JSR_W:
                    return 5;
                default:
                    return 1;
            }
        }

        private static boolean isLocalOpcode(int opcode) {
            return opcode >= ILOAD && opcode <= ALOAD || opcode >= ISTORE && opcode <= ASTORE || opcode == RET;
        }

        private boolean areOperandsTaken() {
            if (opcode >= ILOAD_0 && opcode <= ALOAD_3) {
                return isShortLocalTaken(opcode - ILOAD_0, ILOAD);
            }
            if (opcode >= ISTORE_0 && opcode <= ASTORE_3) {
                return isShortLocalTaken(opcode - ISTORE_0, ISTORE);
            }
            if (isLocalOpcode(opcode)) {
                return isLocalTaken(u1(pc + 1));
            }
            if (opcode >= IFEQ && opcode <= JSR || opcode == IFNULL || opcode == IFNONNULL) {
                return isJumpTaken((short) u2(pc + 1), opcode);
            }
            switch (opcode) {
                case BIPUSH:
                    first = (byte) u1(pc + 1);
                    return true;
                case SIPUSH:
                    first = (short) u2(pc + 1);
                    return true;
                case LDC:
                case NEWARRAY:
                    first = u1(pc + 1);
                    return true;
                case LDC_W:
                    opcode = LDC;
                    first = u2(pc + 1);
                    return true;
                case IINC:
                    second = (byte) u1(pc + 2);
                    return isLocalTaken(u1(pc + 1));
                case GOTO_W:
                    return isJumpTaken(s4(pc + 1), GOTO);
                case JSR_W:
                    return isJumpTaken(s4(pc + 1), JSR);
                default:
                    return isIndexTaken();
            }
        }

        private boolean isShortLocalTaken(int form, int longForm) {
            opcode = longForm + form / 4;
            return isLocalTaken(form % 4);
        }

        private boolean isLocalTaken(int local) {
            boolean isTwo = opcode == LLOAD || opcode == DLOAD || opcode == LSTORE || opcode == DSTORE;
            localPlaces = isTwo ? 2 : 1;
            first = local;
            return true;
        }

        private boolean isJumpTaken(int by, int told) {
            opcode = told;
            offset = by;
            targetCount = 1;
            return true;
        }

        private boolean isIndexTaken() {
            if (size < 3) {
                return true;
            }
            first = u2(pc + 1);
            switch (opcode) {
                case MULTIANEWARRAY:
                    second = u1(pc + 3);
                    return true;
                case INVOKEINTERFACE:
                    second = u1(pc + 3);
                    return u1(pc + 4) == 0;
                case INVOKEDYNAMIC:
                    return u2(pc + 3) == 0;
                default:
                    return true;
            }
        }

        private boolean isWideTaken() {
            if (codeLength - pc < 4) {
                return false;
            }
            opcode = u1(pc + 1);
            if (opcode == IINC) {
                size = 6;
                second = (short) u2(pc + 4);
            } else {
                size = 4;
            }
            if (size > codeLength - pc || opcode != IINC && !isLocalOpcode(opcode)) {
                return false;
            }
            return isLocalTaken(u2(pc + 2));
        }

        private boolean isSwitchTaken() {
            switchAt = (pc & ~3) + 4;
            for (int pad = pc + 1; pad < switchAt; pad++) {
                if (u1(pad) != 0) {
                    return false;
                }
            }
            return opcode == TABLESWITCH ? isTableTaken() : isLookupTaken();
        }

        private boolean isTableTaken() {
            if (codeLength - switchAt < 12) {
                return false;
            }
            first = s4(switchAt + 4);
            second = s4(switchAt + 8);
            long number = (long) second - first + 1;
            if (number < 1 || number * 4 > codeLength - switchAt - 12) {
                return false;
            }
            targetCount = (int) number + 1;
            size = switchAt + 12 + 4 * (int) number - pc;
            return true;
        }

        private boolean isLookupTaken() {
            if (codeLength - switchAt < 8) {
                return false;
            }
            first = s4(switchAt + 4);
            if (first < 0 || first > (codeLength - switchAt - 8) / 8) {
                return false;
            }
            targetCount = first + 1;
            size = switchAt + 8 + 8 * first - pc;
            for (int i = 2; i < targetCount; i++) {
                if (keyOf(i - 1) >= keyOf(i)) {
                    return false;
                }
            }
            return true;
        }

        /** The key that a place of a switch stands for; the default, place 0, has none. */
        int keyOf(int i) {
            if (i == 0) {
                return 0;
            }
            return opcode == TABLESWITCH ? first + i - 1 : s4(switchAt + 8 * i);
        }

        /** Where in the code a jump, or a switch by its place, goes on. */
        long target(int i) {
            if (!isSwitch()) {
                return (long) pc + offset;
            }
            if (i == 0) {
                return (long) pc + s4(switchAt);
            }
            return (long) pc + s4(opcode == TABLESWITCH ? switchAt + 8 + 4 * i : switchAt + 4 + 8 * i);
        }
    }
}
