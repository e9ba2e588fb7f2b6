/** THE CLASS, THE FIELDS and THE METHODS of the document's part 2: a test for each sentence, on both sides. */
public final class MemberEdgesTest {
    private static final Check check = new Check();
    private static final String OBJECT = "java/lang/Object";
    private static final String[] UNQUALIFIED = {"n", "(", ")", "]", "\u0000", "\ud800", "\uffff", " ", "-", "V"};
    private static final String[] QUALIFIED = {"", ".", ";", "[", "/", ".n", "n;", "a[b", "n/", "/n", "a.b", "a/b"};
    private static final String[] ANGLED = {"<", ">", "<n", "n>", "a<b", "a>b", "<>", "<init", "init>", "<clinit", "<init>>", "<Init>"};

    public static void main(String[] args) {
        noModule();
        interfaceFlags();
        classFlags();
        otherClassFlags();
        thisClass();
        superClass();
        superOfInterface();
        interfaces();
        sameInterfaceTwice();
        fieldAccess();
        finalAndVolatile();
        fieldsOfInterfaces();
        fieldNames();
        fieldTypes();
        sameField();
        methodNames();
        initAndClinit();
        nameBeforeFlags();
        flagsOfClinit();
        flagsOfInit();
        flagsInClasses();
        strictAndAbstract();
        flagsInInterfaces();
        flagsInInterfacesBefore52();
        flagsInInterfacesFrom52();
        abstractInInterfaces();
        methodTypes();
        resultOfInit();
        placesWithThis();
        sameMethod();
        codeWithoutFlags();
        codeOfClinit();
        attributesBeforeCodeIsMissed();
        fieldsAndMethodsInOrder();
        check.end();
    }

    private static void classOf(int flags, boolean isRight) {
        Maker maker = new Maker(61);
        maker.flags = flags;
        check.judged("class flags " + flags, maker, isRight, 15, made -> made.flagsAt);
    }

    /** "15 access_flags: 32768 is set". */
    private static void noModule() {
        for (int flags : new int[] {0, 33, 1536, 1537, 0x7FFF & ~(512 | 8192 | 1024)}) {
            classOf(flags, true);
            classOf(flags | 32768, false);
        }
        classOf(65535, false);
    }

    /** "or, with 512: 1024 is not, or one of 16, 32, 16384 is". */
    private static void interfaceFlags() {
        classOf(512, false);
        classOf(513, false);
        classOf(512 | 1024, true);
        classOf(512 | 1024 | 1, true);
        classOf(512 | 1024 | 8192, true);
        for (int ruledOut : new int[] {16, 32, 16384}) {
            classOf(512 | 1024 | ruledOut, false);
            classOf(512 | ruledOut, false);
            classOf(1024 & ~ruledOut | ruledOut, ruledOut != 16);
        }
    }

    /** "without 512: 8192 is, or both 16 and 1024". */
    private static void classFlags() {
        classOf(8192, false);
        classOf(8192 | 1024, false);
        classOf(8192 | 1024 | 512, true);
        classOf(16, true);
        classOf(1024, true);
        classOf(16 | 1024, false);
        classOf(16 | 1024 | 32, false);
    }

    /** "(Others are not looked at.)" */
    private static void otherClassFlags() {
        for (int other : new int[] {0, 1, 2, 4, 8, 64, 128, 256, 2048, 4096, 7 | 8 | 64 | 128 | 256 | 2048 | 4096}) {
            classOf(other, true);
            classOf(other | 1536, true);
        }
        for (int flag : new int[] {16, 32, 1024, 16384}) {
            classOf(flag, true);
        }
    }

    /** What is no Class entry: none, a second place, too great, and an entry of each other kind. */
    private static int[] noClasses(Maker maker) {
        int wide = maker.wide(5, 1);
        int pair = maker.pair("n", "I");
        int ref = maker.ref(10, "B", "m", "()V");
        return new int[] {0, 65535, 300, wide + 1, wide, maker.text("B"), maker.number(1), maker.floating(1), maker.wide(6, 1),
            maker.string("B"), maker.ref(9, "B", "n", "I"), ref, maker.ref(11, "B", "m", "()V"), pair, maker.handle(6, ref),
            maker.methodType("()V"), maker.entry(Maker.u1(19), Maker.u2(1)), maker.entry(Maker.u1(20), Maker.u2(1)),
            maker.entries.size()};
    }

    /** The pool's last entry is a class, so that the number behind it is too great. */
    private static int lastClass(Maker maker, String name) {
        int text = maker.text(name);
        return maker.entry(Maker.u1(7), Maker.u2(text));
    }

    /** "16 this_class: no Class entry, or an array". */
    private static void thisClass() {
        Maker maker = new Maker(61);
        int[] none = noClasses(maker);
        int array = maker.type("[LA;");
        int numbers = maker.type("[I");
        maker.thisClass = lastClass(maker, "Last");
        check.kept("the last entry", maker);
        for (int one : none) {
            if (one != maker.thisClass) {
                isThis(maker, one);
            }
        }
        isThis(maker, array);
        isThis(maker, numbers);
        isThis(maker, maker.entries.size());
    }

    private static void isThis(Maker maker, int index) {
        int before = maker.thisClass;
        maker.thisClass = index;
        check.wrong("this_class " + index, maker, 16, made -> made.flagsAt + 2);
        maker.thisClass = before;
    }

    /** "17 super_class: likewise (0, too)". */
    private static void superClass() {
        for (int flags : new int[] {33, 1537}) {
            Maker maker = new Maker(61);
            maker.flags = flags;
            int[] none = noClasses(maker);
            int array = maker.type("[L" + OBJECT + ";");
            maker.superClass = lastClass(maker, OBJECT);
            check.kept("the last entry", maker);
            for (int one : none) {
                isSuper(maker, one == maker.superClass ? maker.entries.size() : one);
            }
            isSuper(maker, array);
            isSuper(maker, maker.entries.size());
        }
        Maker object = new Maker(61);
        object.thisClass = object.superClass;
        object.superClass = 0;
        check.wrong("Object itself", object, 17, made -> made.flagsAt + 4);
        object.superClass = object.thisClass;
        check.kept("a class may be told to be above itself", object);
    }

    private static void isSuper(Maker maker, int index) {
        int before = maker.superClass;
        maker.superClass = index;
        check.wrong("super_class " + index, maker, 17, made -> made.flagsAt + 4);
        maker.superClass = before;
    }

    /** "or, of an interface, another one than java/lang/Object". */
    private static void superOfInterface() {
        for (String name : new String[] {OBJECT, "java/lang/Objec", "java/lang/Objects", "java/lang/object", "Object", "ava/lang/Object",
            "java/lang/Objecs", "Kava/lang/Object"}) {
            Maker maker = new Maker(61);
            maker.superClass = maker.type(name);
            check.kept("a class below " + name, maker);
            maker.flags = 1536;
            check.judged("an interface below " + name, maker, name.equals(OBJECT), 17, made -> made.flagsAt + 4);
        }
        Maker maker = new Maker(61);
        maker.flags = 1536;
        maker.superClass = maker.entry(Maker.u1(7), Maker.u2(maker.entries.size() + 1));
        maker.entry(longForm(OBJECT));
        check.kept("the same text by another entry and other bytes", maker);
    }

    /** A text of which each character has two bytes. */
    private static byte[] longForm(String text) {
        byte[] body = new byte[2 * text.length()];
        for (int i = 0; i < text.length(); i++) {
            body[2 * i] = (byte) (192 | text.charAt(i) >> 6);
            body[2 * i + 1] = (byte) (128 | text.charAt(i) & 63);
        }
        return Maker.join(Maker.u1(1), Maker.u2(body.length), body);
    }

    /** "18 an interface: no Class entry, an array ..". */
    private static void interfaces() {
        Maker maker = new Maker(61);
        int[] none = noClasses(maker);
        int array = maker.type("[LB;");
        int first = maker.type("B");
        int last = lastClass(maker, "Last");
        check.due("none", check.kept("no interfaces", maker).count(3), 0);
        maker.interfaces.add(first);
        maker.interfaces.add(last);
        check.due("two", check.kept("interfaces", maker).count(3), 2);
        for (int one : none) {
            secondInterface(maker, one == last ? array : one);
        }
        secondInterface(maker, array);
        secondInterface(maker, maker.entries.size());
        maker.interfaces.set(0, 0);
        check.wrong("the first", maker, 18, made -> made.interfacesAt);
    }

    private static void secondInterface(Maker maker, int index) {
        int before = maker.interfaces.get(1);
        maker.interfaces.set(1, index);
        check.wrong("interface " + index, maker, 18, made -> made.interfacesAt + 2);
        maker.interfaces.set(1, before);
    }

    /** "or the same NAME twice": the second of both has the place. */
    private static void sameInterfaceTwice() {
        int number = 9;
        for (int i = 0; i < number; i++) {
            for (int j = i + 1; j < number; j++) {
                for (int form = 0; form < 3; form++) {
                    Maker maker = new Maker(61);
                    for (int k = 0; k < number; k++) {
                        maker.interfaces.add(maker.type("I" + k));
                    }
                    check.due("different ones", check.kept("interfaces", maker).count(3), number);
                    int text = form == 0 ? maker.text("I" + i) : form == 1 ? maker.textAgain("I" + i) : maker.entry(longForm("I" + i));
                    maker.interfaces.set(j, maker.entry(Maker.u1(7), Maker.u2(text)));
                    int at = 2 * j;
                    check.wrong("interfaces " + i + " and " + j, maker, 18, made -> made.interfacesAt + at);
                }
            }
        }
        Maker maker = new Maker(61);
        maker.interfaces.add(maker.thisClass);
        maker.interfaces.add(maker.superClass);
        maker.interfaces.add(maker.type("AA"));
        check.kept("those of this and of super are no others", maker);
    }

    private static Maker anInterface(int major) {
        Maker maker = new Maker(major);
        maker.flags = 1536;
        return maker;
    }

    /** A field behind another one that has an attribute. */
    private static void field(Maker maker, int flags, String name, String type, int rule, int behind) {
        maker.field(25, "before", "I").with(maker.attribute("Odd", Maker.u1(1, 2, 3)));
        maker.field(flags, name, type);
        check.judged("field " + flags + " " + name + " " + type, maker, rule == 0, rule, made -> made.fieldAt[1] + behind);
    }

    /** "19 access_flags: more than one of 1, 2, 4". */
    private static void fieldAccess() {
        for (int access = 0; access < 8; access++) {
            for (int others : new int[] {0, 8, 16, 64, 128, 4096, 16384, 65535 & ~(7 | 64), 65535 & ~(7 | 16)}) {
                field(new Maker(61), access | others, "f", "I", Integer.bitCount(access) > 1 ? 19 : 0, 0);
            }
        }
    }

    /** "16 and 64". */
    private static void finalAndVolatile() {
        for (int others : new int[] {0, 1, 8, 128, 4096, 65535 & ~(7 | 16 | 64)}) {
            field(new Maker(61), others | 16, "f", "I", 0, 0);
            field(new Maker(61), others | 64, "f", "I", 0, 0);
            field(new Maker(61), others | 16 | 64, "f", "I", 19, 0);
        }
    }

    /** "in an interface not just 25 (4096 and others that 4.5 has not aside)". */
    private static void fieldsOfInterfaces() {
        field(anInterface(61), 25, "f", "I", 0, 0);
        field(anInterface(45), 25, "f", "I", 0, 0);
        for (int missing : new int[] {1, 8, 16}) {
            field(anInterface(61), 25 & ~missing, "f", "I", 19, 0);
        }
        for (int bit = 1; bit < 65536; bit *= 2) {
            boolean isIn = (bit & 25) != 0;
            boolean isAside = bit == 4096 || bit == 32 || bit == 256 || bit == 512 || bit == 1024 || bit == 2048 || bit == 8192 || bit == 32768;
            field(anInterface(61), 25 | bit, "f", "I", isIn || isAside ? 0 : 19, 0);
            field(anInterface(61), 25 ^ bit, "f", "I", isAside ? 0 : 19, 0);
        }
        field(anInterface(61), 0, "f", "I", 19, 0);
        field(anInterface(61), 25 | 32 | 256 | 512 | 1024 | 2048 | 4096 | 8192 | 32768, "f", "I", 0, 0);
    }

    /** What is no Utf8: none, a second place, too great, and an entry of each other kind. */
    private static int[] noTexts(Maker maker) {
        int[] all = noClasses(maker);
        int text = maker.text("B");
        for (int i = 0; i < all.length; i++) {
            all[i] = all[i] == text || i == all.length - 1 ? maker.type("B") : all[i];
        }
        return all;
    }

    /** "20 the name's index: no Utf8, or no unqualified name". */
    private static void fieldNames() {
        for (String name : UNQUALIFIED) {
            field(new Maker(61), 1, name, "I", 0, 2);
        }
        for (String name : ANGLED) {
            field(new Maker(61), 1, name, "I", 0, 2);
        }
        for (String name : QUALIFIED) {
            field(new Maker(61), 1, name, "I", 20, 2);
        }
        Maker maker = new Maker(61);
        int[] none = noTexts(maker);
        int type = maker.text("I");
        int last = maker.textAgain("last");
        Maker.Part field = Maker.add(maker.fields, 1, last, type);
        check.kept("the last entry", maker);
        for (int index : none) {
            field.name = index;
            check.wrong("field's name " + index, maker, 20, made -> made.fieldAt[0] + 2);
        }
        field.name = last + 1;
        check.wrong("a name too great", maker, 20, made -> made.fieldAt[0] + 2);
    }

    /** "21 the descriptor's: no Utf8, or no field's". */
    private static void fieldTypes() {
        for (String type : new String[] {"I", "J", "Z", "LA;", "[I", "[".repeat(255) + "I"}) {
            field(new Maker(61), 1, "f", type, 0, 4);
        }
        for (String type : new String[] {"", "V", "II", "LA", "()V", "()I", "(I)V", "[V", "A", "[".repeat(256) + "I"}) {
            field(new Maker(61), 1, "f", type, 21, 4);
        }
        Maker maker = new Maker(61);
        int[] none = noTexts(maker);
        int name = maker.text("f");
        int last = maker.textAgain("J");
        Maker.Part field = Maker.add(maker.fields, 1, name, last);
        check.kept("the last entry", maker);
        for (int index : none) {
            field.descriptor = index;
            check.wrong("field's type " + index, maker, 21, made -> made.fieldAt[0] + 4);
        }
        field.descriptor = last + 1;
        check.wrong("a type too great", maker, 21, made -> made.fieldAt[0] + 4);
    }

    /** "22 a field before has the same name and descriptor (PLACE of access_flags)". */
    private static void sameField() {
        String[][] fields = {{"a", "I"}, {"a", "J"}, {"b", "I"}, {"ab", "I"}, {"b", "J"}};
        for (int same = 0; same < fields.length; same++) {
            for (int form = 0; form < 3; form++) {
                Maker maker = new Maker(61);
                for (String[] one : fields) {
                    maker.field(1, one[0], one[1]);
                }
                maker.method(257, "a", "()V");
                check.kept("different fields", maker);
                int name = again(maker, fields[same][0], form);
                int type = again(maker, fields[same][1], form);
                Maker.add(maker.fields, 2, name, type);
                check.wrong("the same field as " + same, maker, 22, made -> made.fieldAt[5]);
            }
        }
    }

    private static int again(Maker maker, String text, int form) {
        return form == 0 ? maker.text(text) : form == 1 ? maker.textAgain(text) : maker.entry(longForm(text));
    }

    /** A method behind another one, with a Code if its flags ask for one. */
    private static void method(Maker maker, int flags, String name, String type, int rule, int behind) {
        boolean isInterface = maker.flags == 1536;
        maker.method(isInterface ? 1025 : 257, "before", "()V").with(maker.attribute("Odd", Maker.u1(1, 2, 3)));
        Maker.Part method = maker.method(flags, name, type);
        if ((flags & 1280) == 0 || name.equals("<clinit>")) {
            method.with(maker.code(0, 300, Maker.u1(177), new byte[0]));
        }
        String what = "method " + flags + " " + name + " " + type + " in " + maker.major;
        check.judged(what, maker, rule == 0, rule, made -> made.methodAt[1] + behind);
    }

    /** "24 the name's index ..: no Utf8, or a text that is neither an unqualified name without < and > ..". */
    private static void methodNames() {
        for (String name : UNQUALIFIED) {
            method(new Maker(61), 1, name, "()V", 0, 2);
        }
        for (String[] names : new String[][] {QUALIFIED, ANGLED}) {
            for (String name : names) {
                method(new Maker(61), 1, name, "()V", 24, 2);
                method(anInterface(61), 1025, name, "()V", 24, 2);
            }
        }
        Maker maker = new Maker(61);
        int[] none = noTexts(maker);
        int type = maker.text("()V");
        int last = maker.textAgain("last");
        Maker.Part method = Maker.add(maker.methods, 257, last, type);
        check.kept("the last entry", maker);
        for (int index : none) {
            method.name = index;
            check.wrong("method's name " + index, maker, 24, made -> made.methodAt[0] + 2);
        }
        method.name = last + 1;
        check.wrong("a name too great", maker, 24, made -> made.methodAt[0] + 2);
    }

    /** "nor <init> (not in an interface) nor <clinit>". */
    private static void initAndClinit() {
        method(new Maker(61), 1, "<init>", "()V", 0, 2);
        method(anInterface(61), 1, "<init>", "()V", 24, 2);
        method(anInterface(45), 1, "<init>", "()V", 24, 2);
        method(new Maker(61), 8, "<clinit>", "()V", 0, 2);
        method(anInterface(61), 8, "<clinit>", "()V", 0, 2);
        method(anInterface(45), 8, "<clinit>", "()V", 0, 2);
    }

    /** "(looked at first)". */
    private static void nameBeforeFlags() {
        for (String name : new String[] {"a.b", "<m>", ""}) {
            method(new Maker(61), 7, name, "()V", 24, 2);
            method(new Maker(61), 7, name, "I", 24, 2);
        }
        method(new Maker(61), 7, "m", "I", 23, 0);
        method(new Maker(61), 1, "m", "I", 25, 4);
    }

    /** "23 access_flags: of <clinit> nothing is looked at". */
    private static void flagsOfClinit() {
        for (int bit = 1; bit < 65536; bit *= 2) {
            method(new Maker(61), bit, "<clinit>", "()V", 0, 0);
            method(new Maker(61), 65535 ^ bit, "<clinit>", "()V", 0, 0);
            method(anInterface(50), bit, "<clinit>", "()V", 0, 0);
        }
        method(new Maker(50), 65535, "<clinit>", "()V", 0, 0);
        method(anInterface(61), 0, "<clinit>", "()V", 0, 0);
    }

    /** "Of <init>: more than one of 1, 2, 4, or one of 8, 16, 32, 64, 256, 1024". */
    private static void flagsOfInit() {
        for (int access = 0; access < 8; access++) {
            method(new Maker(61), access, "<init>", "()V", Integer.bitCount(access) > 1 ? 23 : 0, 0);
        }
        for (int bit = 8; bit < 65536; bit *= 2) {
            boolean isRuledOut = (bit & (8 | 16 | 32 | 64 | 256 | 1024)) != 0;
            method(new Maker(61), bit | 1, "<init>", "()V", isRuledOut ? 23 : 0, 0);
            method(new Maker(50), bit, "<init>", "()V", isRuledOut ? 23 : 0, 0);
        }
        method(new Maker(61), 2 | 128 | 512 | 2048 | 4096 | 8192 | 16384 | 32768, "<init>", "()V", 0, 0);
    }

    /** "Of others in classes: more than one of 1, 2, 4; with 1024 one of 2, 8, 16, 32, 256 ..". */
    private static void flagsInClasses() {
        for (int access = 0; access < 8; access++) {
            method(new Maker(61), access, "m", "()V", Integer.bitCount(access) > 1 ? 23 : 0, 0);
            method(new Maker(61), access | 1024, "m", "()V", Integer.bitCount(access) > 1 || (access & 2) != 0 ? 23 : 0, 0);
        }
        for (int bit = 8; bit < 65536; bit *= 2) {
            boolean isRuledOut = (bit & (8 | 16 | 32 | 256)) != 0;
            method(new Maker(61), bit, "m", "()V", 0, 0);
            method(new Maker(61), bit | 1024, "m", "()V", isRuledOut ? 23 : 0, 0);
        }
        method(new Maker(61), 65535 & ~(6 | 1024), "m", "()V", 0, 0);
        method(new Maker(61), 4 | 64 | 128 | 512 | 1024 | 2048 | 4096 | 8192 | 16384 | 32768, "m", "()V", 0, 0);
    }

    /** "or, in versions 46 to 60, 2048". */
    private static void strictAndAbstract() {
        for (int major = 45; major <= 61; major++) {
            method(new Maker(major), 1024 | 2048, "m", "()V", major >= 46 && major <= 60 ? 23 : 0, 0);
            method(new Maker(major), 1 | 2048, "m", "()V", 0, 0);
            method(anInterface(major), 1 | 1024 | 2048, "m", "()V", major >= 46 && major <= 60 ? 23 : 0, 0);
        }
    }

    /** "In interfaces: one of 4, 16, 32, 256". */
    private static void flagsInInterfaces() {
        for (int major : new int[] {45, 51, 52, 61}) {
            int right = major < 52 ? 1025 : 1;
            method(anInterface(major), right, "m", "()V", 0, 0);
            for (int bit = 4; bit < 65536; bit *= 2) {
                boolean isRuledOut = (bit & (4 | 16 | 32 | 256)) != 0
                        || bit == 8 && major < 52
                        || bit == 2048 && major == 51;
                method(anInterface(major), right | bit, "m", "()V", isRuledOut ? 23 : 0, 0);
            }
        }
    }

    /** "below version 52 not both 1 and 1024 are set, or 8 is". */
    private static void flagsInInterfacesBefore52() {
        for (int major : new int[] {45, 51}) {
            for (int flags : new int[] {0, 1, 1024, 8, 9, 1032, 2, 1026, 3}) {
                method(anInterface(major), flags, "m", "()V", 23, 0);
            }
            method(anInterface(major), 1025, "m", "()V", 0, 0);
            method(anInterface(major), 1025 | 64 | 128 | 4096, "m", "()V", 0, 0);
        }
    }

    /** "from it on not just one of 1 and 2 is". */
    private static void flagsInInterfacesFrom52() {
        for (int major : new int[] {52, 61}) {
            for (int others : new int[] {0, 8, 64, 128, 4096}) {
                method(anInterface(major), others, "m", "()V", 23, 0);
                method(anInterface(major), others | 1, "m", "()V", 0, 0);
                method(anInterface(major), others | 2, "m", "()V", 0, 0);
                method(anInterface(major), others | 3, "m", "()V", 23, 0);
            }
            method(anInterface(major), 1024, "m", "()V", 23, 0);
        }
    }

    /** "or what was said of 1024". */
    private static void abstractInInterfaces() {
        for (int major : new int[] {52, 61}) {
            method(anInterface(major), 1025, "m", "()V", 0, 0);
            method(anInterface(major), 1026, "m", "()V", 23, 0);
            method(anInterface(major), 1025 | 8, "m", "()V", 23, 0);
            method(anInterface(major), 9, "m", "()V", 0, 0);
            method(anInterface(major), 10, "m", "()V", 0, 0);
        }
    }

    /** "25 the descriptor's index: no Utf8, no method's". */
    private static void methodTypes() {
        for (String type : new String[] {"()V", "(I)J", "(LA;)[I"}) {
            method(new Maker(61), 1, "m", type, 0, 4);
            method(new Maker(61), 8, "<clinit>", type, 0, 4);
        }
        for (String type : new String[] {"", "I", "V", "[I", "LA;", "()", "(V)V", "()VV"}) {
            method(new Maker(61), 1, "m", type, 25, 4);
            method(new Maker(61), 1, "<init>", type, 25, 4);
            method(new Maker(61), 8, "<clinit>", type, 25, 4);
        }
        Maker maker = new Maker(61);
        int[] none = noTexts(maker);
        int name = maker.text("m");
        int last = maker.textAgain("()V");
        Maker.Part method = Maker.add(maker.methods, 257, name, last);
        check.kept("the last entry", maker);
        for (int index : none) {
            method.descriptor = index;
            check.wrong("method's type " + index, maker, 25, made -> made.methodAt[0] + 4);
        }
        method.descriptor = last + 1;
        check.wrong("a type too great", maker, 25, made -> made.methodAt[0] + 4);
    }

    /** "of <init> one that does not end in V". */
    private static void resultOfInit() {
        method(new Maker(61), 1, "<init>", "(J)V", 0, 4);
        for (String type : new String[] {"()I", "()J", "()LV;", "(I)[I"}) {
            method(new Maker(61), 1, "<init>", type, 25, 4);
            method(new Maker(61), 1, "m", type, 0, 4);
            method(new Maker(61), 8, "<clinit>", type, 0, 4);
        }
    }

    /** "places of arguments with that of this (if 8 is not set) above 255". */
    private static void placesWithThis() {
        String[][] types = {{"(" + "I".repeat(254) + ")V", "254"}, {"(" + "I".repeat(255) + ")V", "255"},
            {"(" + "I".repeat(256) + ")V", "256"}, {"(" + "J".repeat(127) + ")V", "254"}, {"(" + "J".repeat(127) + "I)V", "255"},
            {"(" + "D".repeat(128) + ")V", "256"}, {"(" + "[J".repeat(254) + ")J", "254"}, {"(" + "[J".repeat(255) + ")J", "255"}};
        for (String[] one : types) {
            int places = Integer.parseInt(one[1]);
            method(new Maker(61), 257, "m", one[0], places <= 254 ? 0 : 25, 4);
            method(new Maker(61), 265, "m", one[0], places <= 255 ? 0 : 25, 4);
            method(new Maker(61), 0, "<clinit>", one[0], places <= 254 ? 0 : 25, 4);
            method(new Maker(61), 8, "<clinit>", one[0], places <= 255 ? 0 : 25, 4);
            method(anInterface(61), 1025, "m", one[0], places <= 254 ? 0 : 25, 4);
        }
        method(new Maker(61), 1, "<init>", "(" + "I".repeat(254) + ")V", 0, 4);
        method(new Maker(61), 1, "<init>", "(" + "I".repeat(255) + ")V", 25, 4);
    }

    /** "26 a method before has the same name and descriptor (PLACE of access_flags)". */
    private static void sameMethod() {
        String[][] methods = {{"a", "()V"}, {"a", "()I"}, {"b", "()V"}, {"ab", "()V"}, {"b", "(I)V"}};
        for (int same = 0; same < methods.length; same++) {
            for (int form = 0; form < 3; form++) {
                Maker maker = new Maker(61);
                for (String[] one : methods) {
                    maker.method(257, one[0], one[1]);
                }
                maker.field(1, "a", "I");
                check.kept("different methods", maker);
                int name = again(maker, methods[same][0], form);
                int type = again(maker, methods[same][1], form);
                Maker.add(maker.methods, 265, name, type);
                check.wrong("the same method as " + same, maker, 26, made -> made.methodAt[5]);
            }
        }
        for (String name : new String[] {"<init>", "<clinit>"}) {
            Maker maker = new Maker(61);
            maker.coded(name, 1, 177).flags = 0;
            check.kept("once", maker);
            maker.coded(name, 1, 177).flags = 0;
            check.wrong(name + " twice", maker, 26, made -> made.methodAt[1]);
        }
    }

    private static void code(int flags, String name, boolean hasCode, boolean isRight) {
        Maker maker = new Maker(61);
        maker.method(257, "before", "()V");
        Maker.Part method = maker.method(flags, name, "()V").with(maker.attribute("Exceptions", Maker.u2(0)));
        if (hasCode) {
            method.with(maker.code(0, 1, Maker.u1(177), new byte[0]));
        }
        check.judged(name + " " + flags + " code " + hasCode, maker, isRight, 27, made -> made.methodAt[1]);
    }

    /** "27: there is no Code and neither 256 nor 1024 is set, or there is one and one is set .. (PLACE of access_flags)". */
    private static void codeWithoutFlags() {
        for (int flags : new int[] {0, 1, 8, 512, 2048}) {
            code(flags, "m", true, true);
            code(flags, "m", false, false);
        }
        for (int flags : new int[] {256, 257, 1024, 1025, 1024 | 512}) {
            code(flags, "m", true, false);
            code(flags, "m", false, true);
        }
        code(1, "<init>", true, true);
        code(1, "<init>", false, false);
    }

    /** "(of <clinit>: there is none)". */
    private static void codeOfClinit() {
        for (int flags : new int[] {0, 8, 256, 1024, 256 | 1024, 65535}) {
            code(flags, "<clinit>", true, true);
            code(flags, "<clinit>", false, false);
        }
    }

    /** "Then its attributes; then 27": of one method, before the next. */
    private static void attributesBeforeCodeIsMissed() {
        Maker maker = new Maker(61);
        maker.method(1, "m", "()V").with(new Maker.Attribute(0, new byte[0]));
        maker.method(7, "a.b", "I");
        check.wrong("an attribute before 27", maker, 28, made -> made.methodAttributeAt[0][0]);
        maker.methods.get(0).attributes.clear();
        check.wrong("27 before the next method", maker, 27, made -> made.methodAt[0]);
        maker.methods.get(0).flags = 257;
        check.wrong("the next method", maker, 24, made -> made.methodAt[1] + 2);
    }

    /** "THE FIELDS in order, of each .. Then its attributes": of one field, before the next; then the methods. */
    private static void fieldsAndMethodsInOrder() {
        Maker maker = new Maker(61);
        Maker.Part first = maker.field(1, "f", "I").with(new Maker.Attribute(0, new byte[0]));
        Maker.Part second = maker.field(7, "f", "I");
        Maker.Part method = maker.method(7, "a.b", "I");
        maker.attributes.add(new Maker.Attribute(0, new byte[0]));
        check.wrong("a field's attributes", maker, 28, made -> made.fieldAttributeAt[0][0]);
        first.attributes.clear();
        check.wrong("the next field's flags", maker, 19, made -> made.fieldAt[1]);
        second.flags = 1;
        check.wrong("that it is the same", maker, 22, made -> made.fieldAt[1]);
        second.name = maker.text("g");
        check.wrong("the methods", maker, 24, made -> made.methodAt[0] + 2);
        method.name = maker.text("m");
        check.wrong("their flags", maker, 23, made -> made.methodAt[0]);
        method.flags = 257;
        check.wrong("their types", maker, 25, made -> made.methodAt[0] + 4);
        method.descriptor = maker.text("()V");
        check.wrong("the class's attributes", maker, 28, made -> made.attributeAt[0]);
        maker.attributes.clear();
        check.kept("all is right", maker);
    }
}
