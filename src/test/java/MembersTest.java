import java.util.List;

/** The rules of the class, 15 to 18, of its fields, 19 to 22, and of its methods, 23 to 27. */
public final class MembersTest {
    private static final Check check = new Check();
    private static final int[] RETURN = {177};

    public static void main(String[] args) {
        classFlags();
        classNames();
        interfaces();
        fieldFlags();
        fieldNames();
        sameFields();
        methodNames();
        classMethodFlags();
        interfaceMethodFlags();
        initFlags();
        methodDescriptors();
        sameMethods();
        codeOrNone();
        order();
        check.end();
    }

    private static Maker anInterface(int major) {
        Maker maker = new Maker(major);
        maker.flags = 1536;
        return maker;
    }

    private static void classFlags() {
        for (int bits = 0; bits < 256; bits++) {
            int flags = (bits & 1) * 16 + (bits >> 1 & 1) * 32 + (bits >> 2 & 1) * 512 + (bits >> 3 & 1) * 1024
                    + (bits >> 4 & 1) * 8192 + (bits >> 5 & 1) * 16384 + (bits >> 6 & 1) * 32768 + (bits >> 7) * 4099;
            boolean isFinal = (flags & 16) != 0;
            boolean isAbstract = (flags & 1024) != 0;
            boolean isRight = (flags & 32768) == 0 && ((flags & 512) != 0
                    ? isAbstract && !isFinal && (flags & 32) == 0 && (flags & 16384) == 0
                    : (flags & 8192) == 0 && !(isFinal && isAbstract));
            Maker maker = new Maker(61);
            maker.flags = flags;
            if (isRight) {
                check.due("class flags", check.kept("class flags " + flags, maker).count(6), flags);
            } else {
                byte[] bytes = maker.bytes();
                check.wrong("class flags " + flags, bytes, 15, maker.flagsAt);
            }
        }
    }

    private static void classNames() {
        for (int i = 0; i < 4; i++) {
            Maker maker = new Maker(61);
            int[] wrong = {0, 1, 500, maker.type("[LA;")};
            maker.superClass = wrong[i];
            byte[] bytes = maker.bytes();
            check.wrong("super_class " + i, bytes, 17, maker.flagsAt + 4);
            maker.thisClass = wrong[i];
            bytes = maker.bytes();
            check.wrong("this_class " + i, bytes, 16, maker.flagsAt + 2);
        }
        Maker second = new Maker(61);
        second.thisClass = second.wide(5, 0) + 1;
        byte[] bytes = second.bytes();
        check.wrong("a second place", bytes, 16, second.flagsAt + 2);
        Maker object = new Maker(61);
        object.thisClass = object.superClass;
        object.superClass = 0;
        bytes = object.bytes();
        check.wrong("Object has none above it", bytes, 17, object.flagsAt + 4);
        Maker any = new Maker(61);
        any.superClass = any.type("B");
        check.kept("a class below another", any);
        any.flags = 1536;
        bytes = any.bytes();
        check.wrong("an interface below another", bytes, 17, any.flagsAt + 4);
        Maker again = anInterface(61);
        again.superClass = again.entry(Maker.u1(7), Maker.u2(again.textAgain("java/lang/Object")));
        check.kept("an interface below Object's other entry", again);
    }

    private static void interfaces() {
        Maker maker = new Maker(61);
        maker.interfaces.addAll(List.of(maker.type("B"), maker.type("C"), maker.type("A")));
        check.due("three interfaces", check.kept("interfaces", maker).count(3), 3);
        maker.interfaces.addAll(List.of(maker.type("D"), maker.type("E"), maker.type("F"), maker.type("G")));
        check.due("seven interfaces", check.kept("interfaces", maker).count(3), 7);
        int[] wrong = {0, 1, 500, maker.type("[I"), maker.type("B"), maker.type("D"), maker.type("G"),
            maker.entry(Maker.u1(7), Maker.u2(maker.textAgain("C")))};
        for (int one : wrong) {
            maker.interfaces.add(one);
            byte[] bytes = maker.bytes();
            check.wrong("interface " + one, bytes, 18, maker.interfacesAt + 14);
            maker.interfaces.remove(7);
        }
    }

    private static boolean hasOneAtMost(int flags) {
        return Integer.bitCount(flags & 7) <= 1;
    }

    private static void fieldFlags() {
        for (int bits = 0; bits < 512; bits++) {
            int flags = bits & 31 | (bits >> 5 & 1) * 64 | (bits >> 6 & 1) * 128 | (bits >> 7 & 1) * 16384 | (bits >> 8) * 4096;
            Maker maker = new Maker(61);
            maker.field(flags, "f", "I");
            judge("field flags " + flags, maker, hasOneAtMost(flags) && (flags & 80) != 80, 19, 0);
            maker = anInterface(61);
            maker.field(flags, "f", "I");
            judge("interface field " + flags, maker, (flags & ~4096) == 25, 19, 0);
        }
        for (int other : new int[] {32, 256, 512, 1024, 2048, 4096, 8192, 32768}) {
            Maker maker = anInterface(52);
            maker.field(25 | other, "f", "I");
            check.kept("interface field with " + other, maker);
        }
    }

    /** The rule's place is so many bytes behind the first member's begin. */
    private static void judge(String what, Maker maker, boolean isRight, int rule, int behind) {
        if (isRight) {
            check.kept(what, maker);
        } else {
            byte[] bytes = maker.bytes();
            int at = maker.fieldAt.length > 0 ? maker.fieldAt[0] : maker.methodAt[0];
            check.wrong(what, bytes, rule, at + behind);
        }
    }

    private static void fieldNames() {
        for (String name : new String[] {"a", "<init>", "(", "$", "\u00e4", " "}) {
            Maker maker = new Maker(61);
            maker.field(1, name, "I");
            check.kept("field " + name, maker);
        }
        for (String name : new String[] {"", "a.b", "a/b", ";", "["}) {
            Maker maker = new Maker(61);
            maker.field(1, name, "I");
            judge("field " + name, maker, false, 20, 2);
        }
        for (String descriptor : new String[] {"", "V", "()V", "LA", "II"}) {
            Maker maker = new Maker(61);
            maker.field(1, "f", descriptor);
            judge("field of type " + descriptor, maker, false, 21, 4);
        }
        for (int index : new int[] {0, 2, 500}) {
            Maker maker = new Maker(61);
            Maker.add(maker.fields, 1, index, maker.text("I"));
            judge("field's name " + index, maker, false, 20, 2);
            maker = new Maker(61);
            Maker.add(maker.fields, 1, maker.text("f"), index);
            judge("field's type " + index, maker, false, 21, 4);
        }
    }

    private static void sameFields() {
        Maker maker = new Maker(61);
        maker.field(1, "f", "I");
        maker.field(1, "f", "J");
        maker.field(1, "g", "I");
        check.kept("fields that differ", maker);
        for (String type : new String[] {"I", "J"}) {
            Maker.add(maker.fields, 2, maker.textAgain("f"), maker.textAgain(type));
            byte[] bytes = maker.bytes();
            check.wrong("the same field", bytes, 22, maker.fieldAt[3]);
            maker.fields.remove(3);
        }
    }

    private static void methodNames() {
        for (String name : new String[] {"a", "init", "(", "\u20ac"}) {
            Maker maker = new Maker(61);
            maker.method(257, name, "()V");
            check.kept("method " + name, maker);
        }
        for (String name : new String[] {"", "a.b", "a/b", ";", "[", "<", ">", "a>", "<init", "<Init>", "<clinit>>", "<clinit"}) {
            Maker maker = new Maker(61);
            maker.method(257, name, "()V");
            judge("method " + name, maker, false, 24, 2);
        }
        Maker maker = anInterface(61);
        maker.coded("<init>", 1, RETURN).flags = 1;
        judge("<init> in an interface", maker, false, 24, 2);
        maker = anInterface(61);
        maker.coded("<clinit>", 1, RETURN);
        check.kept("<clinit> in an interface", maker);
        for (int index : new int[] {0, 2, 500}) {
            maker = new Maker(61);
            Maker.add(maker.methods, 1024 + 32, index, maker.text("()V"));
            judge("method's name before its flags " + index, maker, false, 24, 2);
            maker = new Maker(61);
            Maker.add(maker.methods, 257, maker.text("m"), index);
            judge("method's type " + index, maker, false, 25, 4);
        }
    }

    private static int methodBits(int bits) {
        return bits & 63 | (bits >> 6 & 1) * 256 | (bits >> 7 & 1) * 1024 | (bits >> 8 & 1) * 2048;
    }

    private static Maker withMethod(Maker maker, int flags, String name) {
        if ((flags & 1280) == 0) {
            maker.coded(name, 1, RETURN).flags = flags;
        } else {
            maker.method(flags, name, "()V");
        }
        return maker;
    }

    private static boolean abstractIsRight(int flags, int major) {
        return (flags & 1024) == 0 || (flags & (2 | 8 | 16 | 32 | 256)) == 0
                && ((flags & 2048) == 0 || major < 46 || major > 60);
    }

    private static void classMethodFlags() {
        for (int bits = 0; bits < 512; bits++) {
            int flags = methodBits(bits);
            for (int major : new int[] {45, 46, 60, 61}) {
                judge("method flags " + flags + " in " + major, withMethod(new Maker(major), flags, "m"),
                        hasOneAtMost(flags) && abstractIsRight(flags, major), 23, 0);
            }
        }
        Maker maker = new Maker(61);
        maker.method(257 | 64 | 128 | 512 | 4096 | 8192 | 16384 | 32768, "m", "()V");
        check.kept("other flags of methods", maker);
    }

    private static void interfaceMethodFlags() {
        for (int bits = 0; bits < 512; bits++) {
            int flags = methodBits(bits);
            for (int major : new int[] {45, 46, 51, 52, 60, 61}) {
                boolean isRight = (flags & (4 | 16 | 32 | 256)) == 0 && abstractIsRight(flags, major)
                        && (major < 52 ? (flags & 1033) == 1025 : Integer.bitCount(flags & 3) == 1);
                judge("interface method " + flags + " in " + major, withMethod(anInterface(major), flags, "m"), isRight, 23, 0);
            }
        }
    }

    private static void initFlags() {
        for (int bits = 0; bits < 1024; bits++) {
            int flags = methodBits(bits & 511) | (bits >> 9) * 64;
            judge("<init> " + flags, withMethod(new Maker(50), flags, "<init>"),
                    hasOneAtMost(flags) && (flags & (8 | 16 | 32 | 64 | 256 | 1024)) == 0, 23, 0);
            Maker maker = new Maker(50);
            maker.coded("<clinit>", 1, RETURN).flags = flags;
            check.kept("<clinit> " + flags, maker);
        }
    }

    private static void methodDescriptors() {
        for (String descriptor : new String[] {"", "I", "()", "(V)V"}) {
            Maker maker = new Maker(61);
            maker.method(257, "m", descriptor);
            judge("method of type " + descriptor, maker, false, 25, 4);
        }
        Maker init = new Maker(61);
        init.coded("<init>", 1, 3, 172).flags = 1;
        init.methods.get(0).descriptor = init.text("()I");
        judge("<init> with a result", init, false, 25, 4);
        for (int flags : new int[] {257, 265}) {
            for (int places : new int[] {254, 255}) {
                Maker maker = new Maker(61);
                maker.method(flags, "m", "(" + "I".repeat(places) + ")V");
                judge(places + " places and " + flags, maker, flags == 265 || places == 254, 25, 4);
            }
        }
        Maker wide = new Maker(61);
        wide.method(257, "m", "(" + "J".repeat(127) + ")V");
        check.due("places with this", check.kept("wide", wide).member(true, 0, 8), 255);
    }

    private static void sameMethods() {
        Maker maker = new Maker(61);
        maker.method(257, "m", "()V");
        maker.method(257, "m", "()I");
        maker.method(257, "n", "()V");
        check.kept("methods that differ", maker);
        for (String type : new String[] {"()V", "()I"}) {
            Maker.add(maker.methods, 265, maker.textAgain("m"), maker.textAgain(type));
            byte[] bytes = maker.bytes();
            check.wrong("the same method", bytes, 26, maker.methodAt[3]);
            maker.methods.remove(3);
        }
    }

    private static void codeOrNone() {
        for (int flags : new int[] {1, 257, 1025}) {
            for (int has = 0; has < 2; has++) {
                Maker maker = new Maker(61);
                Maker.Part method = maker.method(flags, "m", "()V");
                if (has == 1) {
                    method.with(maker.code(0, 1, Maker.u1(RETURN), new byte[0]));
                }
                judge("code " + has + " with " + flags, maker, has == 1 == (flags == 1), 27, 0);
                maker.methods.get(0).name = maker.text("<clinit>");
                judge("<clinit> code " + has + " with " + flags, maker, has == 1, 27, 0);
            }
        }
        Maker odd = new Maker(61);
        odd.method(1, "m", "()V").with(odd.attribute("code", Maker.u1(1)));
        judge("another attribute is no code", odd, false, 27, 0);
        Maker wrong = new Maker(61);
        wrong.method(257, "m", "()V").with(wrong.code(0, 0, Maker.u1(RETURN), new byte[0]));
        byte[] bytes = wrong.bytes();
        check.wrong("the attributes before 27", bytes, 42, wrong.methodAttributeAt[0][0]);
    }

    /** Everything wrong at once: what is mended shows what was to come next. */
    private static void order() {
        Maker maker = new Maker(61);
        maker.flags = 8192;
        int thisClass = maker.thisClass;
        int superClass = maker.superClass;
        maker.thisClass = 0;
        maker.superClass = 0;
        maker.interfaces.add(0);
        Maker.Part field = Maker.add(maker.fields, 3, 0, 0).with(new Maker.Attribute(0, new byte[0]));
        Maker.Part method = Maker.add(maker.methods, 3, 0, 0).with(new Maker.Attribute(0, new byte[0]));
        maker.attributes.add(new Maker.Attribute(0, new byte[0]));
        int name = maker.text("n");
        int type = maker.text("I");
        int descriptor = maker.text("()V");
        next(maker, 15);
        maker.flags = 33;
        next(maker, 16);
        maker.thisClass = thisClass;
        next(maker, 17);
        maker.superClass = superClass;
        next(maker, 18);
        maker.interfaces.set(0, thisClass);
        next(maker, 19);
        field.flags = 1;
        next(maker, 20);
        field.name = name;
        next(maker, 21);
        field.descriptor = type;
        next(maker, 28);
        field.attributes.clear();
        next(maker, 24);
        method.name = name;
        next(maker, 23);
        method.flags = 1;
        next(maker, 25);
        method.descriptor = descriptor;
        next(maker, 28);
        method.attributes.clear();
        next(maker, 27);
        method.flags = 257;
        next(maker, 28);
        maker.attributes.clear();
        check.kept("all mended", maker);
    }

    private static void next(Maker maker, int rule) {
        byte[] bytes = maker.bytes();
        check.wrong("in order " + rule, bytes, rule, placeOf(maker, rule));
    }

    private static int placeOf(Maker maker, int rule) {
        return switch (rule) {
            case 15 -> maker.flagsAt;
            case 16 -> maker.flagsAt + 2;
            case 17 -> maker.flagsAt + 4;
            case 18 -> maker.interfacesAt;
            case 19 -> maker.fieldAt[0];
            case 20 -> maker.fieldAt[0] + 2;
            case 21 -> maker.fieldAt[0] + 4;
            case 23, 27 -> maker.methodAt[0];
            case 24 -> maker.methodAt[0] + 2;
            case 25 -> maker.methodAt[0] + 4;
            default -> firstAttribute(maker);
        };
    }

    private static int firstAttribute(Maker maker) {
        if (maker.fieldAttributeAt[0].length > 0) {
            return maker.fieldAttributeAt[0][0];
        }
        return maker.methodAttributeAt[0].length > 0 ? maker.methodAttributeAt[0][0] : maker.attributeAt[0];
    }
}
