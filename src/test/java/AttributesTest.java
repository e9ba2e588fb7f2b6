import java.util.Arrays;

/** The rules of attributes, 28 to 38 and 41 to 43, and rule 40. */
public final class AttributesTest {
    private static final Check check = new Check();
    private static final int[] RETURN = {177};

    public static void main(String[] args) {
        names();
        unknownOnes();
        twice();
        forms();
        constantValues();
        exceptions();
        innerClasses();
        nests();
        permitted();
        records();
        recordForms();
        bootstraps();
        bootstrapForms();
        dynamics();
        codeForms();
        codeLimits();
        exceptionTables();
        insideCode();
        check.end();
    }

    private static void wrongOfField(String what, Maker maker, int rule, int i) {
        byte[] bytes = maker.bytes();
        check.wrong(what, bytes, rule, maker.fieldAttributeAt[0][i]);
    }

    private static void wrongOfMethod(String what, Maker maker, int rule, int i) {
        byte[] bytes = maker.bytes();
        check.wrong(what, bytes, rule, maker.methodAttributeAt[0][i]);
    }

    private static void wrongOfClass(String what, Maker maker, int rule, int i) {
        byte[] bytes = maker.bytes();
        check.wrong(what, bytes, rule, maker.attributeAt[i]);
    }

    private static void names() {
        for (int index : new int[] {0, 2, 500}) {
            Maker maker = new Maker(61);
            maker.field(1, "f", "I").with(maker.attribute("Odd"), new Maker.Attribute(index, Maker.u1(1)));
            wrongOfField("field's attribute " + index, maker, 28, 1);
            maker = new Maker(61);
            maker.method(257, "m", "()V").with(maker.attribute("Odd"), new Maker.Attribute(index, Maker.u1(1)));
            wrongOfMethod("method's attribute " + index, maker, 28, 1);
            maker = new Maker(61);
            maker.attributes.add(maker.attribute("Odd"));
            maker.attributes.add(new Maker.Attribute(index, Maker.u1(1)));
            wrongOfClass("class's attribute " + index, maker, 28, 1);
        }
    }

    private static final String[] ALL = {"ConstantValue", "Code", "Exceptions", "StackMapTable", "InnerClasses",
        "BootstrapMethods", "NestHost", "NestMembers", "Record", "PermittedSubclasses"};

    /** At each place and version, what is not known there may have any bytes, any number of times. */
    private static void unknownOnes() {
        for (int major = 45; major <= 61; major++) {
            int[] ofClasses = {99, 99, 99, 99, 45, 51, 55, 55, 60, 61};
            for (int i = 0; i < ALL.length; i++) {
                Maker maker = new Maker(major);
                maker.attributes.add(maker.attribute(ALL[i], Maker.u1(1)));
                maker.attributes.add(maker.attribute(ALL[i], Maker.u1(1)));
                if (major >= ofClasses[i]) {
                    wrongOfClass(ALL[i] + " known in " + major, maker, 30, 0);
                } else {
                    check.due("known", check.kept(ALL[i] + " unknown in " + major, maker).count(5), 0);
                }
                maker = new Maker(major);
                maker.field(1, "f", "I").with(maker.attribute(ALL[i], Maker.u1(1)), maker.attribute(ALL[i]));
                if (i == 0) {
                    wrongOfField(ALL[i] + " of a field", maker, 30, 0);
                } else {
                    check.due("known", check.kept(ALL[i] + " of a field", maker).member(false, 0, 3), 0);
                }
                maker = new Maker(major);
                maker.method(257, "m", "()V").with(maker.attribute(ALL[i], Maker.u1(1)), maker.attribute(ALL[i]));
                if (i == 1 || i == 2) {
                    wrongOfMethod(ALL[i] + " of a method", maker, 30, 0);
                } else {
                    check.due("known", check.kept(ALL[i] + " of a method", maker).member(true, 0, 3), 0);
                }
                Maker inside = new Maker(major);
                Maker.Attribute one = inside.attribute(ALL[i], Maker.u1(1));
                inside.method(1, "m", "()V").with(inside.code(0, 1, Maker.u1(RETURN), new byte[0], one, one));
                if (i == 3 && major >= 50) {
                    byte[] bytes = inside.bytes();
                    int first = inside.methodAttributeAt[0][0] + 6 + 8 + 1 + 2 + 2;
                    check.wrong(ALL[i] + " twice in code of " + major, bytes, 29, first + 7);
                } else {
                    check.due("known", check.kept(ALL[i] + " in code of " + major, inside).member(true, 0, 3), 1);
                }
            }
        }
    }

    private static void twice() {
        Maker maker = new Maker(61);
        Maker.Attribute constant = maker.attribute("ConstantValue", Maker.u2(maker.number(1)));
        Maker.Attribute again = new Maker.Attribute(maker.textAgain("ConstantValue"), Maker.u1(1));
        maker.field(9, "f", "I").with(constant, maker.attribute("Odd"), again);
        maker.field(9, "g", "I").with(constant);
        wrongOfField("29 before 30", maker, 29, 2);
        maker.fields.get(0).attributes.remove(2);
        check.kept("once in each field", maker);
        maker = new Maker(61);
        Maker.Attribute none = maker.attribute("Exceptions", Maker.u2(0));
        maker.method(257, "m", "()V").with(none, none);
        maker.method(257, "n", "()V").with(none);
        wrongOfMethod("exceptions", maker, 29, 1);
        maker = new Maker(61);
        maker.method(1, "m", "()V").with(maker.code(0, 1, Maker.u1(RETURN), new byte[0]), maker.attribute("Code"));
        wrongOfMethod("code", maker, 29, 1);
        String[] names = {"InnerClasses", "BootstrapMethods", "NestMembers", "Record", "PermittedSubclasses"};
        for (String name : names) {
            maker = new Maker(61);
            maker.attributes.add(maker.attribute(name, Maker.u2(0)));
            maker.attributes.add(maker.attribute(name, Maker.u2(0)));
            wrongOfClass(name, maker, 29, 1);
        }
        maker = new Maker(61);
        maker.attributes.add(maker.attribute("NestHost", Maker.u2(2)));
        maker.attributes.add(maker.attribute("NestHost", Maker.u2(0)));
        wrongOfClass("NestHost", maker, 29, 1);
    }

    private static void forms() {
        for (String name : new String[] {"InnerClasses", "BootstrapMethods", "NestMembers", "Record", "PermittedSubclasses", "NestHost"}) {
            for (byte[] body : new byte[][] {{}, {0}, {0, 0, 0}, {0, 1}, {0, 1, 0}, {-1, -1}}) {
                boolean isRight = name.equals("NestHost") && body.length == 2;
                if (!isRight) {
                    Maker maker = new Maker(61);
                    maker.attributes.add(maker.attribute(name, body));
                    wrongOfClass(name + " of " + body.length, maker, 30, 0);
                }
            }
        }
        for (byte[] body : new byte[][] {{}, {0}, {0, 1}, {0, 1, 0}, {0, 1, 0, 2, 0}, {0, 0, 0, 2}}) {
            Maker maker = new Maker(61);
            maker.method(257, "m", "()V").with(maker.attribute("Exceptions", body));
            wrongOfMethod("exceptions of " + body.length, maker, 30, 0);
        }
        for (int flags : new int[] {1, 9}) {
            for (byte[] body : new byte[][] {{}, {0}, {0, 0, 0}}) {
                Maker maker = new Maker(61);
                maker.field(flags, "f", "I").with(maker.attribute("ConstantValue", body));
                wrongOfField("constant of " + body.length, maker, 30, 0);
            }
        }
        Maker maker = new Maker(61);
        maker.attributes.add(maker.attribute("InnerClasses", Maker.u2(1, 2, 0, 0)));
        wrongOfClass("a row too short", maker, 30, 0);
    }

    private static void constantValues() {
        String[] types = {"I", "S", "C", "B", "Z", "F", "J", "D", "Ljava/lang/String;", "Ljava/lang/Object;", "[I", "LI;", "[J"};
        int[] tags = {3, 3, 3, 3, 3, 4, 5, 6, 8, 0, 0, 0, 0};
        for (int i = 0; i < types.length; i++) {
            for (int tag : new int[] {0, 1, 3, 4, 5, 6, 7, 8, 16}) {
                Maker maker = new Maker(61);
                int[] entries = {0, maker.text("t"), 0, maker.number(7), maker.floating(0), maker.wide(5, 1), maker.wide(6, 1),
                    maker.type("B"), maker.string("s"), 0, 0, 0, 0, 0, 0, 0, maker.methodType("()V")};
                Maker.Attribute value = maker.attribute("ConstantValue", Maker.u2(entries[tag]));
                Maker.Part field = maker.field(25, "f", types[i]).with(value);
                if (tag == tags[i] && tag != 0) {
                    ClassGate gate = check.kept("constant " + types[i], maker);
                    check.due("its entry", gate.member(false, 0, 4), entries[tag]);
                    check.due("known", gate.member(false, 0, 3), 1);
                } else {
                    wrongOfField("constant " + types[i] + " by " + tag, maker, 31, 0);
                }
                field.flags = 17;
                check.kept("means nothing", maker);
            }
        }
        Maker maker = new Maker(61);
        maker.field(9, "f", "J").with(maker.attribute("ConstantValue", Maker.u2(maker.wide(5, 9) + 1)));
        wrongOfField("a second place", maker, 31, 0);
    }

    private static void exceptions() {
        Maker maker = new Maker(61);
        maker.method(257, "m", "()V").with(maker.attribute("Exceptions", Maker.u2(2, maker.type("B"), maker.type("[I"))));
        ClassGate gate = check.kept("exceptions", maker);
        check.due("declared", gate.member(true, 0, 9), 2);
        check.due("known", gate.member(true, 0, 3), 1);
        for (int index : new int[] {0, 1, 500}) {
            maker = new Maker(61);
            maker.method(257, "m", "()V").with(maker.attribute("Exceptions", Maker.u2(2, 2, index)));
            wrongOfMethod("exception " + index, maker, 32, 0);
            maker = new Maker(61);
            maker.method(257, "m", "()V").with(maker.attribute("Exceptions", Maker.u2(2, index, 2)));
            wrongOfMethod("first exception " + index, maker, 32, 0);
        }
    }

    private static void innerClasses() {
        int[][] right = {{2, 0, 0, 0}, {2, 4, 1, 65535}, {4, 2, 0, 1}};
        for (int[] row : right) {
            Maker maker = new Maker(61);
            maker.attributes.add(maker.attribute("InnerClasses", Maker.u2(2, 2, 2, 1, 0), Maker.u2(row)));
            ClassGate gate = check.kept("inner classes", maker);
            check.due("rows", gate.count(12), 2);
            check.due("known", gate.count(5), 1);
        }
        int[][] wrong = {{0, 0, 0, 0}, {1, 0, 0, 0}, {500, 0, 0, 0}, {2, 1, 0, 0}, {2, 500, 0, 0}, {2, 0, 2, 0}, {2, 0, 500, 0}};
        for (int[] row : wrong) {
            Maker maker = new Maker(45);
            maker.attributes.add(maker.attribute("InnerClasses", Maker.u2(2, 2, 2, 1, 0), Maker.u2(row)));
            wrongOfClass("inner class " + row[0] + " " + row[1] + " " + row[2], maker, 33, 0);
            maker.attributes.set(0, maker.attribute("InnerClasses", Maker.u2(2), Maker.u2(row), Maker.u2(2, 2, 1, 0)));
            wrongOfClass("first inner class", maker, 33, 0);
        }
    }

    private static void nests() {
        for (int index : new int[] {0, 1, 500}) {
            Maker maker = new Maker(55);
            maker.attributes.add(maker.attribute("NestHost", Maker.u2(index)));
            wrongOfClass("nest host " + index, maker, 34, 0);
            maker = new Maker(55);
            maker.attributes.add(maker.attribute("NestMembers", Maker.u2(2, 2, index)));
            wrongOfClass("nest member " + index, maker, 35, 0);
        }
        Maker maker = new Maker(55);
        Maker.Attribute host = maker.attribute("NestHost", Maker.u2(maker.type("B")));
        Maker.Attribute members = maker.attribute("NestMembers", Maker.u2(1, maker.type("B")));
        maker.attributes.add(host);
        ClassGate gate = check.kept("a host", maker);
        check.due("no members", gate.count(13), 0);
        check.due("known", gate.count(5), 1);
        maker.attributes.add(members);
        wrongOfClass("members behind a host", maker, 35, 1);
        maker.attributes.remove(0);
        check.due("members", check.kept("members", maker).count(13), 1);
        maker.attributes.add(maker.attribute("Odd"));
        maker.attributes.add(host);
        wrongOfClass("a host behind members", maker, 34, 2);
    }

    private static void permitted() {
        Maker maker = new Maker(61);
        maker.attributes.add(maker.attribute("PermittedSubclasses", Maker.u2(1, maker.type("B"))));
        check.due("permitted", check.kept("permitted", maker).count(14), 1);
        maker.flags = 49;
        wrongOfClass("of a final class", maker, 36, 0);
        for (int index : new int[] {0, 1, 500}) {
            maker = new Maker(61);
            maker.attributes.add(maker.attribute("PermittedSubclasses", Maker.u2(2, 2, index)));
            wrongOfClass("permitted " + index, maker, 36, 0);
        }
    }

    private static void records() {
        Maker maker = new Maker(60);
        int name = maker.text("n");
        int type = maker.text("I");
        byte[] odd = Maker.written(maker.attribute("ConstantValue", Maker.u1(1)), maker.attribute("Odd"));
        maker.attributes.add(maker.attribute("Record", Maker.u2(2, name, type, 2), odd, Maker.u2(name, type, 0)));
        ClassGate gate = check.kept("a record", maker);
        check.due("parts", gate.count(15), 2);
        check.due("known", gate.count(5), 1);
        maker.attributes.set(0, maker.attribute("Record", Maker.u2(0)));
        check.due("no parts", check.kept("a record of nothing", maker).count(15), 0);
        int[][] wrong = {{0, type}, {2, type}, {500, type}, {maker.text(""), type}, {maker.text("a.b"), type},
            {name, 0}, {name, 2}, {name, maker.text("V")}, {name, maker.text("()V")}};
        for (int[] one : wrong) {
            maker.attributes.set(0, maker.attribute("Record", Maker.u2(2, name, type, 2), odd, Maker.u2(one), Maker.u2(0)));
            wrongOfClass("part " + one[0] + " " + one[1], maker, 37, 0);
        }
        byte[] bad = Maker.written(maker.attribute("Odd", Maker.u1(1)), new Maker.Attribute(2, Maker.u1(5)));
        maker.attributes.set(0, maker.attribute("Record", Maker.u2(1, name, type, 2), bad));
        byte[] bytes = maker.bytes();
        check.wrong("a part's attribute", bytes, 28, maker.attributeAt[0] + 6 + 2 + 6 + 7);
    }

    private static void recordForms() {
        Maker maker = new Maker(61);
        int name = maker.text("n");
        int type = maker.text("I");
        Maker.Attribute odd = maker.attribute("Odd", Maker.u1(1, 2));
        byte[] whole = Maker.join(Maker.u2(1, name, type, 1), Maker.written(odd));
        for (int length = 0; length < whole.length; length++) {
            maker.attributes.clear();
            maker.attributes.add(maker.attribute("Record", Arrays.copyOf(whole, length)));
            wrongOfClass("record cut to " + length, maker, 30, 0);
        }
        maker.attributes.set(0, maker.attribute("Record", whole, Maker.u1(0)));
        wrongOfClass("record and a byte", maker, 30, 0);
        for (int length : new int[] {1, 3, -1, Integer.MAX_VALUE, Integer.MIN_VALUE}) {
            odd.length = length;
            maker.attributes.set(0, maker.attribute("Record", Maker.u2(1, name, type, 1), Maker.written(odd)));
            wrongOfClass("a part's attribute of " + length, maker, 30, 0);
        }
        maker.attributes.set(0, maker.attribute("Record", Maker.u2(2, 0, 0, 0)));
        wrongOfClass("30 before 37", maker, 30, 0);
    }

    private static void bootstraps() {
        Maker maker = new Maker(55);
        int handle = maker.handle(6, maker.ref(10, "B", "m", "()V"));
        int[] loadable = {maker.number(1), maker.floating(2), maker.wide(5, 3), maker.wide(6, 4), maker.type("B"),
            maker.string("s"), handle, maker.methodType("()V"), maker.dynamic(17, 0, "n", "I")};
        maker.attributes.add(maker.attribute("BootstrapMethods", Maker.u2(2, handle, 0, handle, loadable.length), Maker.u2(loadable)));
        ClassGate gate = check.kept("bootstrap methods", maker);
        check.due("how many", gate.count(4), 2);
        check.due("first", gate.bootstrap(0, 0), handle);
        check.due("has no argument", gate.bootstrap(0, 1), -1);
        check.due("second", gate.bootstrap(1, 0), handle);
        for (int i = 0; i < loadable.length; i++) {
            check.due("argument " + i, gate.bootstrap(1, i + 1), loadable[i]);
        }
        check.due("no more arguments", gate.bootstrap(1, loadable.length + 1), -1);
        check.due("no part", gate.bootstrap(1, -1), -1);
        check.due("lowest part", gate.bootstrap(1, Integer.MIN_VALUE), -1);
        check.due("greatest part", gate.bootstrap(1, Integer.MAX_VALUE), -1);
        check.due("no method", gate.bootstrap(-1, 0), -1);
        check.due("no third", gate.bootstrap(2, 0), -1);
        for (int index : new int[] {0, 1, 2, 500}) {
            maker.attributes.set(0, maker.attribute("BootstrapMethods", Maker.u2(2, handle, 0, index, 0)));
            wrongOfClass("handle " + index, maker, 38, 0);
        }
        int[] others = {0, 500, maker.text("t"), maker.ref(9, "B", "f", "I"), maker.ref(10, "B", "m", "()V"),
            maker.ref(11, "B", "m", "()V"), maker.pair("n", "I"), maker.dynamic(18, 0, "n", "()V"),
            maker.entry(Maker.u1(19), Maker.u2(1)), maker.entry(Maker.u1(20), Maker.u2(1))};
        for (int index : others) {
            maker.attributes.set(0, maker.attribute("BootstrapMethods", Maker.u2(1, handle, 2, loadable[0], index)));
            wrongOfClass("argument " + index, maker, 38, 0);
        }
    }

    private static void bootstrapForms() {
        Maker maker = new Maker(51);
        int handle = maker.handle(5, maker.ref(10, "B", "m", "()V"));
        byte[] whole = Maker.u2(2, handle, 1, 2, handle, 0);
        for (int length = 0; length < whole.length; length++) {
            maker.attributes.clear();
            maker.attributes.add(maker.attribute("BootstrapMethods", Arrays.copyOf(whole, length)));
            wrongOfClass("bootstraps cut to " + length, maker, 30, 0);
        }
        maker.attributes.set(0, maker.attribute("BootstrapMethods", whole, Maker.u1(0)));
        wrongOfClass("bootstraps and a byte", maker, 30, 0);
        maker.attributes.set(0, maker.attribute("BootstrapMethods", Maker.u2(1, handle, 65535, 2)));
        wrongOfClass("too many arguments", maker, 30, 0);
        maker.attributes.set(0, maker.attribute("BootstrapMethods", Maker.u2(65535, handle, 65535)));
        wrongOfClass("too many of all", maker, 30, 0);
    }

    private static void dynamics() {
        for (int tag = 17; tag <= 18; tag++) {
            Maker maker = new Maker(61);
            int handle = maker.handle(6, maker.ref(10, "B", "m", "()V"));
            String type = tag == 17 ? "I" : "()V";
            int first = maker.dynamic(tag, 0, "n", type);
            int second = maker.dynamic(tag, 1, "n", type);
            byte[] bytes = maker.bytes();
            check.wrong("no bootstrap methods", bytes, 40, maker.entryAt[first]);
            maker.attributes.add(maker.attribute("BootstrapMethods", Maker.u2(1, handle, 0)));
            bytes = maker.bytes();
            check.wrong("too few", bytes, 40, maker.entryAt[second]);
            maker.attributes.set(0, maker.attribute("BootstrapMethods", Maker.u2(2, handle, 0, handle, 0)));
            check.kept("enough", maker);
            maker.attributes.add(new Maker.Attribute(0, new byte[0]));
            maker.dynamic(tag, 2, "n", type);
            wrongOfClass("40 comes last", maker, 28, 1);
            maker = new Maker(61);
            maker.thisClass = maker.type("B");
            maker.entries.set(2, Maker.join(Maker.u1(8), Maker.u2(maker.text("B"))));
            maker.entries.set(1, Maker.join(Maker.u1(tag), Maker.u2(0, maker.pair("n", type))));
            bytes = maker.bytes();
            check.wrong("the very first entry", bytes, 40, maker.entryAt[1]);
        }
    }

    private static Maker withCode(byte[]... body) {
        Maker maker = new Maker(61);
        maker.method(1, "m", "()V").with(maker.attribute("Code", body));
        return maker;
    }

    private static void codeForms() {
        Maker maker = new Maker(61);
        Maker.Attribute odd = maker.attribute("Odd", Maker.u1(1, 2));
        byte[] whole = maker.code(1, 1, Maker.u1(0, 177), Maker.u2(0, 1, 1, 0), odd).body;
        for (int length = 0; length < whole.length; length++) {
            maker.methods.clear();
            maker.method(1, "m", "()V").with(maker.attribute("Code", Arrays.copyOf(whole, length)));
            wrongOfMethod("code cut to " + length, maker, 30, 0);
        }
        maker.methods.clear();
        maker.method(1, "m", "()V").with(maker.attribute("Code", whole));
        check.kept("code", maker);
        maker.methods.clear();
        maker.method(1, "m", "()V").with(maker.attribute("Code", whole, Maker.u1(0)));
        wrongOfMethod("code and a byte", maker, 30, 0);
        for (int length : new int[] {3, 65536, Integer.MAX_VALUE, Integer.MIN_VALUE, -1}) {
            wrongOfMethod("code_length " + length, withCode(Maker.u2(0, 1), Maker.u4(length), Maker.u1(177), Maker.u2(0, 0)), 30, 0);
        }
        for (int length : new int[] {1, 3, -1, Integer.MAX_VALUE}) {
            odd.length = length;
            maker.methods.clear();
            maker.method(1, "m", "()V").with(maker.code(0, 1, Maker.u1(177), new byte[0], odd));
            wrongOfMethod("an attribute of " + length, maker, 30, 0);
        }
        // The first attribute of a length below 0 leads back into the code, from where the other would end rightly.
        Maker back = withCode(Maker.u2(0, 1), Maker.u4(6), Maker.u2(1), Maker.u4(10), Maker.u2(0, 2, 1), Maker.u4(-16));
        wrongOfMethod("an attribute that leads back", back, 30, 0);
    }

    private static void codeLimits() {
        wrongOfMethod("no code", withCode(Maker.u2(0, 0), Maker.u4(0), Maker.u2(1, 0, 0, 0, 0, 0)), 41, 0);
        wrongOfMethod("no room for this", withCode(Maker.u2(0, 0), Maker.u4(1), Maker.u1(177), Maker.u2(1, 0, 0, 0, 0, 0)), 42, 0);
        for (int flags : new int[] {1, 9}) {
            for (int locals = 4; locals <= 6; locals++) {
                Maker maker = new Maker(61);
                maker.method(flags, "m", "(IJ[J)V").with(maker.code(0, locals, Maker.u1(177), new byte[0]));
                int due = flags == 1 ? 5 : 4;
                if (locals >= due) {
                    ClassGate gate = check.kept("locals " + locals, maker);
                    check.due("max_locals", gate.member(true, 0, 6), locals);
                    check.due("places", gate.member(true, 0, 8), due);
                } else {
                    wrongOfMethod("locals " + locals, maker, 42, 0);
                }
            }
        }
    }

    private static void exceptionTables() {
        int[][] right = {{0, 3, 0, 0}, {0, 1, 2, 2}, {2, 3, 2, 4}};
        int[][] wrong = {{0, 0, 0, 0}, {1, 1, 0, 0}, {2, 1, 0, 0}, {0, 4, 0, 0}, {0, 65535, 0, 0}, {0, 1, 3, 0}, {0, 1, 65535, 0},
            {0, 1, 0, 1}, {0, 1, 0, 500}};
        for (int[] row : right) {
            Maker maker = new Maker(61);
            byte[] rows = Maker.join(Maker.u2(0, 1, 0, 0), Maker.u2(row));
            maker.method(1, "m", "()V").with(maker.code(0, 1, Maker.u1(0, 0, 177), rows));
            ClassGate gate = check.kept("row", maker);
            check.due("rows", gate.member(true, 0, 7), 2);
            for (int what = 0; what < 4; what++) {
                check.due("row's " + what, gate.row(0, 1, what), row[what]);
            }
            check.due("no row", gate.row(0, 2, 0), -1);
            check.due("no row", gate.row(0, -1, 0), -1);
            check.due("no method", gate.row(1, 0, 0), -1);
            check.due("no method", gate.row(-1, 0, 0), -1);
        }
        for (int[] row : wrong) {
            Maker maker = new Maker(61);
            byte[] rows = Maker.join(Maker.u2(0, 1, 0, 0), Maker.u2(row));
            maker.method(1, "m", "()V").with(maker.code(0, 1, Maker.u1(0, 0, 177), rows, new Maker.Attribute(0, new byte[0])));
            wrongOfMethod("row " + Arrays.toString(row), maker, 43, 0);
            maker = new Maker(61);
            rows = Maker.join(Maker.u2(row), Maker.u2(0, 1, 0, 0));
            maker.method(1, "m", "()V").with(maker.code(0, 1, Maker.u1(0, 0, 177), rows));
            wrongOfMethod("first row", maker, 43, 0);
        }
    }

    private static void insideCode() {
        Maker maker = new Maker(61);
        Maker.Attribute map = maker.attribute("StackMapTable", Maker.u1(9, 9, 9));
        maker.method(1, "m", "()V").with(maker.code(0, 1, Maker.u1(177), new byte[0], map, new Maker.Attribute(2, Maker.u1(1))));
        byte[] bytes = maker.bytes();
        check.wrong("an attribute's name", bytes, 28, maker.methodAttributeAt[0][0] + 6 + 8 + 1 + 2 + 2 + 9);
        maker = new Maker(61);
        byte[] rows = Maker.u2(0, 1, 0, 0, 0, 1, 0, 0);
        maker.method(1, "m", "()V").with(maker.code(0, 1, Maker.u1(177), rows, new Maker.Attribute(0, Maker.u1(1))));
        bytes = maker.bytes();
        check.wrong("an attribute's name behind rows", bytes, 28, maker.methodAttributeAt[0][0] + 6 + 8 + 1 + 2 + 16 + 2);
        maker = new Maker(61);
        map = maker.attribute("StackMapTable");
        maker.method(1, "m", "()V").with(maker.code(0, 1, Maker.u1(177), new byte[0], map), maker.attribute("Exceptions", Maker.u2(0)));
        maker.method(1, "n", "()V").with(maker.code(0, 1, Maker.u1(177), new byte[0], map));
        ClassGate gate = check.kept("each code has its map", maker);
        check.due("known of the method", gate.member(true, 0, 3), 2);
        check.due("known of the other", gate.member(true, 1, 3), 1);
    }
}
