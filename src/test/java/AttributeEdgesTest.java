import java.util.Arrays;
import java.util.function.ToIntFunction;

/** THE ATTRIBUTES of the document's part 2, and rule 40: a test for each sentence, on both sides of its boundary. */
public final class AttributeEdgesTest {
    private static final Check check = new Check();
    private static final byte[] NOTHING = {};

    public static void main(String[] args) {
        namesThatAreNoTexts();
        knownOfFields();
        knownOfMethods();
        knownInCode();
        knownOfClasses();
        knownOnesElsewhere();
        knownByTheirCharacters();
        aSecondTime();
        aSecondTimeAtOnePlace();
        fewerOrMoreBytes();
        rowsOfForms();
        mapsAreNotLookedAt();
        constantsOfStaticFields();
        constantsOfOtherFields();
        declaredExceptions();
        innerClasses();
        outerClasses();
        innerNames();
        nestHosts();
        nestMembers();
        hostAndMembers();
        permittedSubclasses();
        permittedByFinal();
        recordNames();
        recordTypes();
        attributesOfComponents();
        bootstrapHandles();
        bootstrapArguments();
        codeLength();
        maxLocals();
        startBelowEnd();
        endInCode();
        handlerInCode();
        catchType();
        codeInThisOrder();
        attributesInCode();
        bootstrapIndexes();
        bootstrapIndexesComeLast();
        attributesInOrder();
        check.end();
    }

    /** An index of each kind but one: 0 is what is no entry. */
    private static int[] oneOfEach(Maker maker, int but) {
        int wide = maker.wide(5, 1);
        int ref = maker.ref(10, "B", "m", "()V");
        int[][] all = {{0, 0}, {0, 65535}, {0, 500}, {0, wide + 1}, {1, 1}, {3, maker.number(1)}, {4, maker.floating(1)}, {5, wide},
            {6, maker.wide(6, 1)}, {7, maker.type("B")}, {8, maker.string("B")}, {9, maker.ref(9, "B", "f", "I")}, {10, ref},
            {11, maker.ref(11, "B", "m", "()V")}, {12, maker.pair("f", "I")}, {15, maker.handle(6, ref)}, {16, maker.methodType("()V")},
            {19, maker.entry(Maker.u1(19), Maker.u2(1))}, {20, maker.entry(Maker.u1(20), Maker.u2(1))}};
        return Arrays.stream(all).filter(one -> one[0] != but).mapToInt(one -> one[1]).toArray();
    }

    private static void ofField(String what, Maker maker, int rule, int i) {
        check.judged(what, maker, rule == 0, rule, made -> made.fieldAttributeAt[0][i]);
    }

    private static void ofMethod(String what, Maker maker, int rule, int i) {
        check.judged(what, maker, rule == 0, rule, made -> made.methodAttributeAt[0][i]);
    }

    private static void ofClass(String what, Maker maker, int rule, int i) {
        check.judged(what, maker, rule == 0, rule, made -> made.attributeAt[i]);
    }

    /** "28 the name's index is no Utf8": at each place. */
    private static void namesThatAreNoTexts() {
        Maker kinds = new Maker(61);
        int[] none = oneOfEach(kinds, 1);
        int last = kinds.textAgain("last");
        for (int i = 0; i <= none.length + 1; i++) {
            int index = i < none.length ? none[i] : last + i - none.length;
            int rule = index == last ? 0 : 28;
            Maker.Attribute one = new Maker.Attribute(index, Maker.u1(1, 2));
            Maker.Attribute right = new Maker.Attribute(1, Maker.u1(3));
            Maker maker = sharing(kinds);
            Maker.add(maker.fields, 1, last, last).with(right, one);
            maker.fields.get(0).descriptor = kinds.text("I");
            ofField("a field's " + index, maker, rule, 1);
            maker = sharing(kinds);
            Maker.add(maker.methods, 257, last, kinds.text("()V")).with(right, one);
            ofMethod("a method's " + index, maker, rule, 1);
            maker = sharing(kinds);
            maker.attributes.add(right);
            maker.attributes.add(one);
            ofClass("a class's " + index, maker, rule, 1);
        }
    }

    /** Another class that begins with the same entries. */
    private static Maker sharing(Maker kinds) {
        Maker maker = new Maker(kinds.major);
        kinds.text("I");
        kinds.text("()V");
        maker.entries.clear();
        maker.entries.addAll(kinds.entries);
        return maker;
    }

    /** A known attribute has a form, which one byte is none of: so 30 tells that it is known. */
    private static void isKnown(String what, Maker maker, boolean isKnown, ToIntFunction<Maker> place) {
        check.judged(what, maker, !isKnown, 30, place);
    }

    private static final String[] ALL = {"ConstantValue", "Code", "Exceptions", "StackMapTable", "InnerClasses", "BootstrapMethods",
        "NestHost", "NestMembers", "Record", "PermittedSubclasses", "Signature", "SourceFile", "Module", "Deprecated", "Synthetic",
        "LineNumberTable", "EnclosingMethod", "", "Cod", "Codes", "code", "constantValue", "Exception", "Record "};

    /** "KNOWN are: for fields ConstantValue". */
    private static void knownOfFields() {
        for (int major = 45; major <= 61; major++) {
            for (String name : ALL) {
                Maker maker = new Maker(major);
                maker.field(9, "f", "I").with(maker.attribute(name, Maker.u1(1)));
                isKnown(name + " of a field in " + major, maker, name.equals("ConstantValue"), made -> made.fieldAttributeAt[0][0]);
            }
        }
    }

    /** "for methods Code, Exceptions". */
    private static void knownOfMethods() {
        for (int major = 45; major <= 61; major++) {
            for (String name : ALL) {
                Maker maker = new Maker(major);
                maker.method(257, "m", "()V").with(maker.attribute(name, Maker.u1(1)));
                boolean isKnown = name.equals("Code") || name.equals("Exceptions");
                isKnown(name + " of a method in " + major, maker, isKnown, made -> made.methodAttributeAt[0][0]);
            }
        }
    }

    /** Where the first attribute in a method's first Code begins, which has no rows. */
    private static int firstInCode(Maker maker, int codeLength) {
        return maker.methodAttributeAt[0][0] + 6 + 8 + codeLength + 2 + 2;
    }

    /** "in Code StackMapTable (from 50)": it has no form here, but comes once alone. */
    private static void knownInCode() {
        for (int major = 45; major <= 61; major++) {
            for (String name : ALL) {
                Maker maker = new Maker(major);
                Maker.Attribute one = maker.attribute(name, Maker.u1(1));
                maker.method(1, "m", "()V").with(maker.code(0, 1, Maker.u1(177), NOTHING, one, one));
                boolean isKnown = name.equals("StackMapTable") && major >= 50;
                check.judged(name + " in code of " + major, maker, !isKnown, 29, made -> firstInCode(made, 1) + 7);
            }
        }
    }

    private static int lowestOfClasses(String name) {
        return switch (name) {
            case "InnerClasses" -> 45;
            case "BootstrapMethods" -> 51;
            case "NestHost", "NestMembers" -> 55;
            case "Record" -> 60;
            case "PermittedSubclasses" -> 61;
            default -> 62;
        };
    }

    /** "for classes InnerClasses, BootstrapMethods (from 51), NestHost, NestMembers (from 55), Record (from 60), ..". */
    private static void knownOfClasses() {
        for (int major = 45; major <= 61; major++) {
            for (String name : ALL) {
                Maker maker = new Maker(major);
                maker.attributes.add(maker.attribute(name, Maker.u1(1)));
                isKnown(name + " of a class in " + major, maker, major >= lowestOfClasses(name), made -> made.attributeAt[0]);
                maker.attributes.set(0, maker.attribute(name, Maker.u2(name.equals("NestHost") ? 2 : 0)));
                ClassGate gate = check.kept(name + " in its form in " + major, maker);
                check.due(name + " counted in " + major, gate.count(5), major >= lowestOfClasses(name) ? 1 : 0);
                check.due(name + " a record in " + major, gate.count(15), name.equals("Record") && major >= 60 ? 0 : -1);
            }
        }
    }

    /** "All others, and known ones elsewhere or in earlier versions, are bytes that mean nothing": any, any number of times. */
    private static void knownOnesElsewhere() {
        Maker maker = new Maker(49);
        Maker.Part field = maker.field(9, "f", "I");
        Maker.Part method = maker.method(257, "m", "()V");
        for (int round = 0; round < 2; round++) {
            for (String name : ALL) {
                Maker.Attribute one = maker.attribute(name, Maker.u1(7));
                if (!name.equals("ConstantValue")) {
                    field.with(one);
                }
                if (!name.equals("Code") && !name.equals("Exceptions")) {
                    method.with(one);
                }
                if (!name.equals("InnerClasses")) {
                    maker.attributes.add(one);
                }
            }
        }
        ClassGate gate = check.kept("all that mean nothing", maker);
        check.due("of the field", gate.member(false, 0, 3), 0);
        check.due("of the method", gate.member(true, 0, 3), 0);
        check.due("of the class", gate.count(5), 0);
        int[][] due = {{4, 0}, {12, 0}, {13, 0}, {14, 0}, {15, -1}};
        for (int[] one : due) {
            check.due("count " + one[0], gate.count(one[0]), one[1]);
        }
    }

    /** "Utf8 entries are texts of characters (16 bits), compared by these": not by their bytes. */
    private static void knownByTheirCharacters() {
        Maker maker = new Maker(61);
        byte[] twoBytesEach = Maker.u1(193, 131, 193, 175, 193, 164, 193, 165);
        int code = maker.entry(Maker.u1(1), Maker.u2(8), twoBytesEach);
        Maker.Attribute right = maker.code(0, 1, Maker.u1(177), NOTHING);
        maker.method(1, "m", "()V").with(new Maker.Attribute(code, right.body));
        check.due("its length", check.kept("Code by other bytes", maker).member(true, 0, 4), 1);
        maker.methods.get(0).with(right);
        ofMethod("and by these too", maker, 29, 1);
    }

    /** "29 a known one comes a second time at one place": before 30, and whatever comes between. */
    private static void aSecondTime() {
        for (byte[] again : new byte[][] {Maker.u2(0), NOTHING, Maker.u1(1)}) {
            for (String name : new String[] {"InnerClasses", "BootstrapMethods", "NestHost", "NestMembers", "Record", "PermittedSubclasses"}) {
                Maker maker = new Maker(61);
                maker.attributes.add(maker.attribute(name, Maker.u2(name.equals("NestHost") ? 2 : 0)));
                maker.attributes.add(maker.attribute("Odd"));
                check.kept(name + " once", maker);
                maker.attributes.add(new Maker.Attribute(maker.textAgain(name), again));
                ofClass(name + " twice", maker, 29, 2);
            }
            Maker maker = new Maker(61);
            maker.method(257, "m", "()V").with(maker.attribute("Exceptions", Maker.u2(0)), maker.attribute("Exceptions", again));
            ofMethod("Exceptions twice", maker, 29, 1);
            maker = new Maker(61);
            maker.method(1, "m", "()V").with(maker.code(0, 1, Maker.u1(177), NOTHING), maker.attribute("Code", again));
            ofMethod("Code twice", maker, 29, 1);
            for (int flags : new int[] {1, 9}) {
                maker = new Maker(61);
                int one = maker.number(1);
                maker.field(flags, "f", "I").with(maker.attribute("ConstantValue", Maker.u2(one)), maker.attribute("ConstantValue", again));
                ofField("ConstantValue twice", maker, 29, 1);
            }
        }
    }

    /** "at one place": each member, and each Code, is a place of its own. */
    private static void aSecondTimeAtOnePlace() {
        Maker maker = new Maker(61);
        int one = maker.number(1);
        Maker.Attribute map = maker.attribute("StackMapTable", Maker.u1(1));
        for (String name : new String[] {"a", "b", "c"}) {
            maker.field(9, name, "I").with(maker.attribute("ConstantValue", Maker.u2(one)));
            maker.method(1, name, "()V").with(maker.attribute("Exceptions", Maker.u2(0)), maker.code(0, 1, Maker.u1(177), NOTHING, map));
        }
        ClassGate gate = check.kept("once at each place", maker);
        for (int i = 0; i < 3; i++) {
            check.due("of field " + i, gate.member(false, i, 3), 1);
            check.due("of method " + i, gate.member(true, i, 3), 2);
        }
    }

    private static void formOfClass(String name, int rule, byte[]... body) {
        Maker maker = new Maker(61);
        maker.attributes.add(maker.attribute(name, body));
        ofClass(name + " of " + Maker.join(body).length, maker, rule, 0);
    }

    /** "30 its bytes are fewer or more than its form in 4.7 has": forms of one size. */
    private static void fewerOrMoreBytes() {
        for (int size = 0; size <= 5; size++) {
            byte[] body = Arrays.copyOf(Maker.u2(2), size);
            formOfClass("NestHost", size == 2 ? 0 : 30, body);
            for (int flags : new int[] {1, 9}) {
                Maker maker = new Maker(61);
                int one = maker.number(1);
                maker.field(flags, "f", "I").with(maker.attribute("ConstantValue", Arrays.copyOf(Maker.u2(one), size)));
                ofField("ConstantValue of " + size + " with " + flags, maker, size == 2 ? 0 : 30, 0);
            }
        }
    }

    /** The same of forms with rows, of which a number is told before them. */
    private static void rowsOfForms() {
        for (int number : new int[] {0, 1, 2, 5}) {
            for (int extra = -2; extra <= 2; extra++) {
                byte[] pointers = rows(number, 2, extra);
                byte[] inner = rows(number, 8, extra);
                int rule = extra == 0 ? 0 : 30;
                formOfClass("NestMembers", rule, pointers);
                formOfClass("PermittedSubclasses", rule, pointers);
                formOfClass("InnerClasses", rule, inner);
                Maker maker = new Maker(61);
                maker.method(257, "m", "()V").with(maker.attribute("Exceptions", pointers));
                ofMethod("Exceptions of " + pointers.length, maker, rule, 0);
            }
        }
        for (String name : new String[] {"NestMembers", "PermittedSubclasses", "InnerClasses", "BootstrapMethods", "Record"}) {
            formOfClass(name, 30, Maker.u2(65535));
            formOfClass(name, 30, Maker.u2(32768, 2, 2, 1, 0));
            formOfClass(name, 30, Maker.u2(0, 0));
        }
    }

    /** So many rows of Class 2 and zeros, with more bytes behind them or fewer. */
    private static byte[] rows(int number, int size, int extra) {
        byte[] all = new byte[Math.max(0, 2 + number * size + extra)];
        for (int i = 0; i < all.length; i++) {
            boolean isIndex = i >= 2 && (i - 2) % size == 1;
            all[i] = (byte) (i == 1 ? number : isIndex ? 2 : 0);
        }
        return all;
    }

    /** "(of a StackMapTable nothing is looked at)". */
    private static void mapsAreNotLookedAt() {
        for (byte[] body : new byte[][] {NOTHING, {0}, {0, 0}, {-1, -1}, {0, 1, -1}, {0, 9, 9, 9, 9}}) {
            Maker maker = new Maker(61);
            maker.method(1, "m", "()V").with(maker.code(0, 1, Maker.u1(177), NOTHING, maker.attribute("StackMapTable", body)));
            check.kept("a map of " + body.length, maker);
        }
    }

    private static final String[][] CONSTANTS = {{"I", "3"}, {"S", "3"}, {"C", "3"}, {"B", "3"}, {"Z", "3"}, {"F", "4"}, {"J", "5"},
        {"D", "6"}, {"Ljava/lang/String;", "8"}, {"Ljava/lang/Strin;", "0"}, {"Ljava/lang/Strings;", "0"}, {"Ljava/lang/Object;", "0"},
        {"[I", "0"}, {"LI;", "0"}, {"[Ljava/lang/String;", "0"}, {"LString;", "0"}, {"[J", "0"}, {"Ljava/lang/Integer;", "0"}};

    /** "31 ConstantValue of a field with 8 set: its entry is not of the kind that 4.7.2 has for the descriptor". */
    private static void constantsOfStaticFields() {
        for (String[] one : CONSTANTS) {
            int due = Integer.parseInt(one[1]);
            Maker kinds = new Maker(61);
            kinds.text(one[0]);
            kinds.text("ConstantValue");
            kinds.text("f");
            int[] others = oneOfEach(kinds, due == 0 ? 99 : due);
            for (int index : others) {
                constant(kinds, 8, one[0], index, 31);
                constant(kinds, 25, one[0], index, 31);
            }
            int[] rights = {0, 0, 0, kinds.number(1), kinds.floating(1), kinds.wideAt(), kinds.wide(6, 2), 0, kinds.string("B")};
            if (due != 0) {
                constant(kinds, 8, one[0], rights[due], 0);
                constant(kinds, 25, one[0], rights[due], 0);
            }
        }
    }

    private static void constant(Maker kinds, int flags, String type, int index, int rule) {
        Maker maker = sharing(kinds);
        maker.field(flags, "f", type).with(maker.attribute("ConstantValue", Maker.u2(index)));
        ofField("constant " + index + " of " + type + " with " + flags, maker, rule, 0);
        if (rule == 0) {
            ClassGate gate = check.kept("constant", maker);
            check.due("the entry of ConstantValue", gate.member(false, 0, 4), index);
            check.due("known", gate.member(false, 0, 3), 1);
        }
    }

    /** "(of a field without 8 it means nothing, but 30 holds)". */
    private static void constantsOfOtherFields() {
        for (String[] one : CONSTANTS) {
            for (int index : new int[] {0, 1, 2, 500, 65535}) {
                for (int flags : new int[] {0, 1, 17, 65535 & ~(8 | 6 | 64)}) {
                    Maker maker = new Maker(61);
                    maker.field(flags, "f", one[0]).with(maker.attribute("ConstantValue", Maker.u2(index)));
                    check.due("no entry is told", check.kept("constant " + index, maker).member(false, 0, 4), 0);
                    maker.fields.get(0).attributes.set(0, maker.attribute("ConstantValue", Maker.u2(index), Maker.u1(0)));
                    ofField("a byte more", maker, 30, 0);
                    maker.fields.get(0).attributes.set(0, maker.attribute("ConstantValue", Maker.u1(0)));
                    ofField("a byte less", maker, 30, 0);
                }
            }
        }
    }

    /** "32 Exceptions: one is no Class entry": any of them. */
    private static void declaredExceptions() {
        Maker kinds = new Maker(61);
        kinds.text("Exceptions");
        kinds.text("m");
        int[] none = oneOfEach(kinds, 7);
        for (int i = 0; i < 3; i++) {
            for (int index : none) {
                int[] all = {2, 4, 2};
                all[i] = index;
                Maker maker = sharing(kinds);
                maker.method(257, "m", "()V").with(maker.attribute("Exceptions", Maker.u2(3), Maker.u2(all)));
                ofMethod("exception " + i + " is " + index, maker, 32, 0);
            }
        }
        for (int number = 0; number <= 3; number++) {
            Maker maker = new Maker(61);
            byte[] all = Arrays.copyOf(Maker.u2(2, 4, 2), 2 * number);
            maker.method(257, "m", "()V").with(maker.attribute("Exceptions", Maker.u2(number), all));
            check.due("declared", check.kept("exceptions", maker).member(true, 0, 9), number);
        }
    }

    private static void inner(Maker kinds, int rule, int... row) {
        for (int i = 0; i < 2; i++) {
            Maker maker = sharing(kinds);
            int[] other = {2, 4, 1, 65535};
            int[][] rows = i == 0 ? new int[][] {row, other} : new int[][] {other, row};
            maker.attributes.add(maker.attribute("InnerClasses", Maker.u2(2), Maker.u2(rows[0]), Maker.u2(rows[1])));
            ofClass("inner class " + Arrays.toString(row), maker, rule, 0);
        }
    }

    private static Maker kindsFor(String attribute) {
        Maker kinds = new Maker(61);
        kinds.text(attribute);
        return kinds;
    }

    /** "33 InnerClasses: inner_class_info_index no Class entry". */
    private static void innerClasses() {
        Maker kinds = kindsFor("InnerClasses");
        for (int index : oneOfEach(kinds, 7)) {
            inner(kinds, 33, index, 0, 0, 0);
        }
        inner(kinds, 0, 2, 0, 0, 0);
        inner(kinds, 0, 4, 2, 1, 0);
    }

    /** "outer_ neither 0 nor one". */
    private static void outerClasses() {
        Maker kinds = kindsFor("InnerClasses");
        for (int index : oneOfEach(kinds, 7)) {
            inner(kinds, index == 0 ? 0 : 33, 2, index, 1, 0);
        }
        inner(kinds, 0, 2, 4, 1, 0);
    }

    /** "inner_name_ neither 0 nor a Utf8". */
    private static void innerNames() {
        Maker kinds = kindsFor("InnerClasses");
        for (int index : oneOfEach(kinds, 1)) {
            inner(kinds, index == 0 ? 0 : 33, 2, 4, index, 0);
        }
        inner(kinds, 0, 2, 4, 1, 0);
    }

    /** "34 NestHost: no Class entry". */
    private static void nestHosts() {
        Maker kinds = kindsFor("NestHost");
        int array = kinds.type("[I");
        for (int index : oneOfEach(kinds, 7)) {
            Maker maker = sharing(kinds);
            maker.attributes.add(maker.attribute("NestHost", Maker.u2(index)));
            ofClass("host " + index, maker, 34, 0);
        }
        for (int index : new int[] {2, 4, array}) {
            Maker maker = sharing(kinds);
            maker.attributes.add(maker.attribute("NestHost", Maker.u2(index)));
            ofClass("host " + index, maker, 0, 0);
        }
    }

    private static void pointers(String name, int rule, int what) {
        Maker kinds = kindsFor(name);
        int[] none = oneOfEach(kinds, 7);
        for (int i = 0; i < 3; i++) {
            for (int index : none) {
                int[] all = {2, 4, 2};
                all[i] = index;
                Maker maker = sharing(kinds);
                maker.attributes.add(maker.attribute(name, Maker.u2(3), Maker.u2(all)));
                ofClass(name + " " + i + " is " + index, maker, rule, 0);
            }
        }
        for (int number = 0; number <= 3; number++) {
            Maker maker = sharing(kinds);
            maker.attributes.add(maker.attribute(name, Maker.u2(number), Arrays.copyOf(Maker.u2(2, 4, 2), 2 * number)));
            check.due(name, check.kept(name, maker).count(what), number);
        }
    }

    /** "35 NestMembers: one is no Class entry". */
    private static void nestMembers() {
        pointers("NestMembers", 35, 13);
    }

    /** "or NestMembers came before", "or NestHost came before": empty or not, the later one has the place. */
    private static void hostAndMembers() {
        for (int[] members : new int[][] {{0}, {1, 2}}) {
            for (int major : new int[] {54, 55, 61}) {
                Maker maker = new Maker(major);
                maker.attributes.add(maker.attribute("NestHost", Maker.u2(2)));
                maker.attributes.add(maker.attribute("Odd"));
                maker.attributes.add(maker.attribute("NestMembers", Maker.u2(members)));
                ofClass("members behind a host in " + major, maker, major < 55 ? 0 : 35, 2);
                maker = new Maker(major);
                maker.attributes.add(maker.attribute("NestMembers", Maker.u2(members)));
                maker.attributes.add(maker.attribute("Odd"));
                maker.attributes.add(maker.attribute("NestHost", Maker.u2(2)));
                ofClass("a host behind members in " + major, maker, major < 55 ? 0 : 34, 2);
            }
        }
    }

    /** "36 PermittedSubclasses: likewise one". */
    private static void permittedSubclasses() {
        pointers("PermittedSubclasses", 36, 14);
    }

    /** "or the class has 16 set": of an empty one too, and not before version 61. */
    private static void permittedByFinal() {
        for (int flags : new int[] {0, 1, 32, 33, 16, 17, 48, 49}) {
            for (int[] all : new int[][] {{0}, {1, 2}}) {
                for (int major : new int[] {60, 61}) {
                    Maker maker = new Maker(major);
                    maker.flags = flags;
                    maker.attributes.add(maker.attribute("PermittedSubclasses", Maker.u2(all)));
                    ofClass("permitted by " + flags, maker, (flags & 16) != 0 && major == 61 ? 36 : 0, 0);
                }
            }
        }
    }

    private static void part(Maker kinds, int rule, int name, int type) {
        int right = kinds.text("Record");
        int number = kinds.text("I");
        for (int i = 0; i < 3; i++) {
            int[][] all = {{right, number, 0}, {right, number, 0}, {right, number, 0}};
            all[i] = new int[] {name, type, 0};
            Maker maker = sharing(kinds);
            maker.attributes.add(maker.attribute("Record", Maker.u2(3), Maker.u2(all[0]), Maker.u2(all[1]), Maker.u2(all[2])));
            ofClass("part " + i + " " + name + " " + type, maker, rule, 0);
        }
    }

    /** "37 Record: a name's index that is no Utf8 with an unqualified name". */
    private static void recordNames() {
        Maker kinds = kindsFor("Record");
        int type = kinds.text("I");
        for (int index : oneOfEach(kinds, 1)) {
            part(kinds, 37, index, type);
        }
        for (String name : new String[] {"", ".", "a.b", ";", "a;", "[", "a/b", "/"}) {
            part(kinds, 37, kinds.text(name), type);
        }
        for (String name : new String[] {"n", "<", ">", "<init>", "(", " "}) {
            part(kinds, 0, kinds.text(name), type);
        }
    }

    /** "a descriptor that is no field's". */
    private static void recordTypes() {
        Maker kinds = kindsFor("Record");
        int name = kinds.text("n");
        for (int index : oneOfEach(kinds, 1)) {
            part(kinds, 37, name, index);
        }
        for (String type : new String[] {"", "V", "()V", "()I", "II", "LA", "[".repeat(256) + "I"}) {
            part(kinds, 37, name, kinds.text(type));
        }
        for (String type : new String[] {"I", "J", "LA;", "[".repeat(255) + "I"}) {
            part(kinds, 0, name, kinds.text(type));
        }
    }

    private static Maker recordWith(Maker.Attribute... ofFirst) {
        Maker maker = new Maker(61);
        maker.text("Record");
        int name = maker.text("n");
        int type = maker.text("I");
        maker.attributes.add(maker.attribute("Record", Maker.u2(2, name, type, ofFirst.length), Maker.written(ofFirst), Maker.u2(name, type, 0)));
        return maker;
    }

    /** "(the attributes of a component: 28 and 1, as 30, alone)": known ones elsewhere may have any bytes there, twice. */
    private static void attributesOfComponents() {
        for (String name : ALL) {
            Maker maker = new Maker(61);
            Maker.Attribute odd = maker.attribute(name, Maker.u1(1));
            maker.attributes.add(maker.attribute("Record", Maker.u2(1, maker.text("n"), maker.text("I"), 2), Maker.written(odd, odd)));
            ClassGate gate = check.kept(name + " of a component", maker);
            check.due("parts", gate.count(15), 1);
            check.due("known", gate.count(5), 1);
        }
        for (int index : new int[] {0, 2, 500, 65535}) {
            Maker maker = recordWith(new Maker.Attribute(1, Maker.u1(1, 2, 3)), new Maker.Attribute(index, NOTHING));
            check.wrong("a name " + index, maker, 28, made -> made.attributeAt[0] + 6 + 2 + 6 + 9);
        }
        for (int length : new int[] {4, 9, 10, 65535, 0x7FFFFFFF, 0x80000000, 0xFFFFFFFF, -6, -12}) {
            Maker.Attribute one = new Maker.Attribute(1, Maker.u1(1, 2, 3));
            one.length = length;
            ofClass("a length " + length, recordWith(one), 30, 0);
        }
    }

    /** "38 BootstrapMethods: no MethodHandle entry". */
    private static void bootstrapHandles() {
        Maker kinds = kindsFor("BootstrapMethods");
        int handle = kinds.handle(6, kinds.ref(10, "B", "m", "()V"));
        for (int i = 0; i < 3; i++) {
            for (int index : oneOfEach(kinds, 15)) {
                bootstraps(kinds, 38, i, handle, index);
            }
            bootstraps(kinds, 0, i, handle, handle);
        }
    }

    private static void bootstraps(Maker kinds, int rule, int i, int handle, int index) {
        int[] all = {handle, handle, handle};
        all[i] = index;
        Maker maker = sharing(kinds);
        maker.attributes.add(maker.attribute("BootstrapMethods", Maker.u2(3, all[0], 1, 2, all[1], 0, all[2], 2, 2, 2)));
        ofClass("bootstrap " + i + " by " + index, maker, rule, 0);
    }

    /** "or an argument that is not loadable (4.4, Table 4.4-C)". */
    private static void bootstrapArguments() {
        for (int major : new int[] {51, 55, 61}) {
            Maker kinds = new Maker(major);
            kinds.text("BootstrapMethods");
            int ref = kinds.ref(10, "B", "m", "()V");
            int handle = kinds.handle(6, ref);
            int wide = kinds.wide(5, 1);
            int[] loadable = {kinds.number(1), kinds.floating(1), wide, kinds.wide(6, 1), kinds.type("B"), kinds.string("B"), handle,
                kinds.methodType("()V"), major >= 55 ? kinds.dynamic(17, 0, "f", "I") : handle};
            int[] others = {0, 500, 65535, wide + 1, 1, kinds.ref(9, "B", "f", "I"), ref, kinds.ref(11, "B", "m", "()V"),
                kinds.pair("f", "I"), kinds.dynamic(18, 0, "m", "()V"), major >= 53 ? kinds.entry(Maker.u1(19), Maker.u2(1)) : 1,
                major >= 53 ? kinds.entry(Maker.u1(20), Maker.u2(1)) : 1};
            for (int index : loadable) {
                argument(kinds, 0, handle, index);
            }
            for (int index : others) {
                argument(kinds, 38, handle, index);
            }
        }
    }

    private static void argument(Maker kinds, int rule, int handle, int index) {
        for (int i = 0; i < 3; i++) {
            int[] all = {2, 2, 2};
            all[i] = index;
            Maker maker = sharing(kinds);
            maker.attributes.add(maker.attribute("BootstrapMethods", Maker.u2(2, handle, 0, handle, 3), Maker.u2(all)));
            ofClass("argument " + index + " in " + kinds.major, maker, rule, 0);
        }
    }

    private static Maker withCode(int maxLocals, int length, byte[] rows, Maker.Attribute... inside) {
        Maker maker = new Maker(61);
        byte[] code = new byte[length];
        if (length > 0) {
            code[length - 1] = (byte) 177;
        }
        maker.method(1, "m", "(J)V").with(maker.code(0, maxLocals, code, rows, inside));
        return maker;
    }

    /** "41 Code: code_length 0 or above 65535": of the latter no file has the bytes, so 30 comes before it. */
    private static void codeLength() {
        ofMethod("no code", withCode(3, 0, NOTHING), 41, 0);
        ofMethod("one byte", withCode(3, 1, NOTHING), 0, 0);
        for (int length : new int[] {65000, 65400}) {
            Maker maker = withCode(3, length, NOTHING);
            check.due("long code", check.kept("code of " + length, maker).member(true, 0, 4), length);
        }
        for (int length : new int[] {65535, 65536, 65537, 0x10001, 0x1000001, 0x7FFFFFFF, 0x80000000, 0x80000001, 0xFFFFFFFF}) {
            Maker maker = new Maker(61);
            maker.method(1, "m", "()V").with(maker.attribute("Code", Maker.u2(0, 1), Maker.u4(length), Maker.u1(177), Maker.u2(0, 0)));
            ofMethod("code_length " + length, maker, 30, 0);
        }
        // With a sign it would lead back to max_stack, from where twelve bytes would be a form too.
        Maker back = new Maker(61);
        back.method(1, "m", "()V").with(back.attribute("Code", Maker.u2(1, 1), Maker.u4(-8), Maker.u2(0, 0)));
        ofMethod("a length that leads back", back, 30, 0);
    }

    /** "42 max_locals less than the places of arguments and this". */
    private static void maxLocals() {
        Object[][] methods = {{1, "m", "()V", 1}, {9, "m", "()V", 0}, {1, "m", "(I)V", 2}, {9, "m", "(I)V", 1}, {1, "m", "(J)V", 3},
            {9, "m", "(J[JD)V", 5}, {1, "<init>", "()V", 1}, {8, "<clinit>", "()V", 0}, {0, "<clinit>", "()V", 1},
            {9, "m", "(" + "I".repeat(255) + ")V", 255}, {1, "m", "(" + "I".repeat(254) + ")V", 255}};
        for (Object[] one : methods) {
            int places = (int) one[3];
            for (int locals : new int[] {0, places - 1, places, places + 1, 65535}) {
                if (locals >= 0) {
                    Maker maker = new Maker(61);
                    maker.method((int) one[0], (String) one[1], (String) one[2]).with(maker.code(0, locals, Maker.u1(177), NOTHING));
                    ofMethod(locals + " locals of " + places, maker, locals < places ? 42 : 0, 0);
                }
            }
        }
    }

    private static void row(int rule, int length, int... row) {
        for (int i = 0; i < 2; i++) {
            byte[] other = Maker.u2(0, 1, 0, 2);
            byte[] rows = i == 0 ? Maker.join(Maker.u2(row), other) : Maker.join(other, Maker.u2(row));
            Maker maker = withCode(3, length, rows);
            ofMethod("row " + Arrays.toString(row) + " in " + length, maker, rule, 0);
        }
    }

    /** "43 a row of exception_table: start_pc not below end_pc". */
    private static void startBelowEnd() {
        row(0, 5, 0, 1, 0, 0);
        row(0, 5, 4, 5, 0, 0);
        row(43, 5, 0, 0, 0, 0);
        row(43, 5, 1, 1, 0, 0);
        row(43, 5, 5, 5, 0, 0);
        row(43, 5, 3, 2, 0, 0);
        row(43, 5, 65535, 1, 0, 0);
        row(43, 5, 32768, 5, 0, 0);
    }

    /** "end_pc above code_length". */
    private static void endInCode() {
        for (int length : new int[] {1, 2, 5, 300}) {
            row(0, length, 0, length, 0, 0);
            row(43, length, 0, length + 1, 0, 0);
            row(43, length, 0, 65535, 0, 0);
            row(43, length, 0, 32768, 0, 0);
        }
    }

    /** "handler_pc not below it". */
    private static void handlerInCode() {
        for (int length : new int[] {1, 2, 5, 300}) {
            row(0, length, 0, 1, length - 1, 0);
            row(43, length, 0, 1, length, 0);
            row(43, length, 0, 1, length + 1, 0);
            row(43, length, 0, 1, 65535, 0);
        }
    }

    /** "catch_type neither 0 nor a Class entry". */
    private static void catchType() {
        row(0, 1, 0, 1, 0, 0);
        row(0, 1, 0, 1, 0, 2);
        row(0, 1, 0, 1, 0, 4);
        Maker kinds = kindsFor("Code");
        kinds.text("m");
        for (int index : oneOfEach(kinds, 7)) {
            Maker maker = sharing(kinds);
            maker.method(9, "m", "()V").with(maker.code(0, 0, Maker.u1(177), Maker.u2(0, 1, 0, index)));
            ofMethod("catch_type " + index, maker, index == 0 ? 0 : 43, 0);
        }
    }

    /** "In this order; then the attributes in it". */
    private static void codeInThisOrder() {
        byte[] badRow = Maker.u2(0, 0, 0, 0);
        Maker.Attribute noName = new Maker.Attribute(0, NOTHING);
        ofMethod("41 before 42", withCode(0, 0, badRow, noName), 41, 0);
        ofMethod("42 before 43", withCode(0, 1, badRow, noName), 42, 0);
        ofMethod("43 before 28", withCode(3, 1, badRow, noName), 43, 0);
        check.wrong("then 28", withCode(3, 1, NOTHING, noName), 28, made -> firstInCode(made, 1));
        Maker more = new Maker(61);
        more.method(1, "m", "()V").with(more.attribute("Code", Maker.u2(0, 0), Maker.u4(0), Maker.u2(0, 0), Maker.u1(0)));
        ofMethod("30 before 41", more, 30, 0);
    }

    /** The names of attributes in Code, and where they begin behind rows of the table. */
    private static void attributesInCode() {
        for (int rows = 0; rows <= 3; rows++) {
            byte[] table = new byte[8 * rows];
            for (int i = 0; i < rows; i++) {
                table[8 * i + 3] = 1;
            }
            int behindRows = 8 * rows;
            for (int index : new int[] {0, 2, 500}) {
                Maker maker = withCode(3, 4, table, new Maker.Attribute(1, Maker.u1(1, 2)), new Maker.Attribute(index, NOTHING));
                check.wrong("a name " + index, maker, 28, made -> firstInCode(made, 4) + behindRows + 8);
            }
        }
        for (int length : new int[] {1, 3, 0x7FFFFFFF, 0x80000000, 0xFFFFFFFF, -6}) {
            Maker.Attribute one = new Maker.Attribute(1, Maker.u1(1, 2));
            one.length = length;
            ofMethod("a length " + length, withCode(3, 1, NOTHING, one), 30, 0);
        }
        Maker.Attribute none = new Maker.Attribute(1, NOTHING);
        check.kept("an empty one", withCode(3, 1, NOTHING, none, none));
    }

    /**
     * "40: a Dynamic or InvokeDynamic entry, rising, whose bootstrap_method_attr_index is not below the number of
     * bootstrap methods (0 without BootstrapMethods) (PLACE: its tag)".
     */
    private static void bootstrapIndexes() {
        for (int tag = 17; tag <= 18; tag++) {
            String type = tag == 17 ? "I" : "()V";
            for (int number = 0; number <= 3; number++) {
                for (int index : new int[] {0, 1, 2, 3, 32768, 65535}) {
                    Maker maker = new Maker(61);
                    int handle = maker.handle(6, maker.ref(10, "B", "m", "()V"));
                    int k = maker.dynamic(tag, index, "n", type);
                    byte[] rows = Arrays.copyOf(Maker.u2(handle, 0, handle, 0, handle, 0), 4 * number);
                    check.judged("none of " + number, maker, false, 40, made -> made.entryAt[k]);
                    maker.attributes.add(maker.attribute("BootstrapMethods", Maker.u2(number), rows));
                    check.judged(index + " of " + number, maker, index < number, 40, made -> made.entryAt[k]);
                }
            }
        }
        for (int first = 17; first <= 18; first++) {
            Maker maker = new Maker(61);
            int one = maker.dynamic(first, 1, "n", first == 17 ? "I" : "()V");
            maker.dynamic(35 - first, 0, "n", first == 17 ? "()V" : "I");
            check.wrong("the first of both kinds", maker, 40, made -> made.entryAt[one]);
            maker.thisClass = 4;
            maker.entries.set(2, Maker.utf8("B"));
            maker.entries.set(1, maker.entries.get(one));
            check.wrong("the very first entry", maker, 40, made -> made.entryAt[1]);
        }
    }

    /** "Then THE ATTRIBUTES of the class; then 40". */
    private static void bootstrapIndexesComeLast() {
        Maker maker = new Maker(61);
        int k = maker.dynamic(18, 0, "n", "()V");
        maker.attributes.add(new Maker.Attribute(0, NOTHING));
        ofClass("an attribute before 40", maker, 28, 0);
        maker.attributes.clear();
        maker.method(1, "m", "()V");
        check.wrong("27 before 40", maker, 27, made -> made.methodAt[0]);
        maker.methods.clear();
        check.wrong("40 at last", maker, 40, made -> made.entryAt[k]);
    }

    /** "ATTRIBUTES of each place in order, PLACE always where the attribute begins": of two wrong ones the first decides. */
    private static void attributesInOrder() {
        Maker maker = new Maker(61);
        Maker.Attribute[] wrong = {new Maker.Attribute(0, NOTHING), maker.attribute("NestHost", Maker.u1(1)),
            maker.attribute("NestMembers", Maker.u2(1, 1)), maker.attribute("InnerClasses", Maker.u2(1, 0, 0, 0, 0))};
        int[] rules = {28, 30, 35, 33};
        for (int i = 0; i < wrong.length; i++) {
            for (int j = 0; j < wrong.length; j++) {
                maker.attributes.clear();
                maker.attributes.add(maker.attribute("Odd", Maker.u1(1, 2, 3)));
                maker.attributes.add(wrong[i]);
                maker.attributes.add(wrong[j]);
                ofClass("first " + i + " then " + j, maker, rules[i], 1);
            }
        }
    }
}
