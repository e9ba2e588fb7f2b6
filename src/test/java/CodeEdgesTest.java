import java.util.Arrays;

/** Part 3 of the document's terms, CODE, and promises 15 to 17: a test for each sentence, on both sides. */
public final class CodeEdgesTest {
    private static final Check check = new Check();
    private static final int LOWEST = Integer.MIN_VALUE;
    private static final int GREATEST = Integer.MAX_VALUE;
    private static final int[] NONE = {};

    public static void main(String[] args) {
        cutWhenAskedFor();
        opcodesThatAreNone();
        operandsBeyondTheCode();
        pads();
        lowAndHigh();
        pairs();
        keysRise();
        whatIsWide();
        subroutines();
        localsOfOnePlace();
        localsOfTwoPlaces();
        kindsOfNewarray();
        constantsOfOnePlace();
        constantsByVersion();
        dynamicConstants();
        constantsOfTwoPlaces();
        fields();
        methodsByVersion();
        initJustForInvokespecial();
        newIsNoArray();
        dimensionsOfMultianewarray();
        arraysOfArrays();
        countOfInvokeinterface();
        zeroOfInvokeinterface();
        zerosOfInvokedynamic();
        checkcastAndTheLike();
        targetsOfJumps();
        targetsOfSwitches();
        operandsBeforeTargets();
        firstByPlace();
        farJumps();
        longAndShortForms();
        cutOfNone();
        cutOfWrongCode();
        instructionOfEach();
        operandsOfSwitches();
        jumpsToInstructions();
        instructionsInAnyOrder();
        oneInstructionBehindAnother();
        instructionThatIsNone();
        instructionOtherWhats();
        placesOfSwitches();
        keysOfSwitches();
        jumpThatIsNone();
        check.end();
    }

    private static int[] join(int[]... parts) {
        return Arrays.stream(parts).flatMapToInt(Arrays::stream).toArray();
    }

    private static int[] s2(int... values) {
        int[] all = new int[2 * values.length];
        for (int i = 0; i < all.length; i++) {
            all[i] = values[i / 2] >> 8 - 8 * (i % 2) & 255;
        }
        return all;
    }

    private static int[] s4(int... values) {
        int[] all = new int[4 * values.length];
        for (int i = 0; i < all.length; i++) {
            all[i] = values[i / 4] >> 24 - 8 * (i % 4) & 255;
        }
        return all;
    }

    private static int[] op(int opcode, int[]... operands) {
        return join(new int[] {opcode}, join(operands));
    }

    private static int[] local(int opcode, int local) {
        return new int[] {opcode, local};
    }

    private static int[] wide(int opcode, int local) {
        return join(new int[] {196, opcode}, s2(local));
    }

    private static int[] nops(int number) {
        return new int[number];
    }

    /** A switch that begins behind so many bytes, with pads that are 0. */
    private static int[] table(int before, int normal, int low, int high, int... targets) {
        return join(new int[] {170}, nops(3 - before % 4), s4(normal, low, high), s4(targets));
    }

    private static int[] lookup(int before, int normal, int pairs, int... keysAndTargets) {
        return join(new int[] {171}, nops(3 - before % 4), s4(normal, pairs), s4(keysAndTargets));
    }

    private static ClassGate gateOf(Maker maker, int maxLocals, int[]... code) {
        maker.methods.clear();
        maker.coded("m", maxLocals, join(code));
        return check.kept("code", maker);
    }

    /** What cut answers of a code, and whether instructions are told by it. */
    private static void cut(String what, Maker maker, int maxLocals, int due, int[]... code) {
        ClassGate gate = gateOf(maker, maxLocals, code);
        check.due(what + ": cut", gate.cut(0), due);
        check.due(what + ": first instruction", gate.instruction(0, 0, 1), due < 0 ? -1 : 0);
    }

    /** An instruction behind a nop and before a return, which is right or makes the code wrong at its place. */
    private static void between(String what, Maker maker, int maxLocals, boolean isRight, int[]... code) {
        cut(what, maker, maxLocals, isRight ? 3 : -3, nops(1), join(code), new int[] {177});
    }

    /** "is cut into instructions, when it is asked for": a file is kept whatever its code is. */
    private static void cutWhenAskedFor() {
        Maker maker = new Maker(61);
        maker.coded("a", 0, 255);
        maker.coded("b", 0, 177);
        ClassGate gate = check.kept("code that is none", maker);
        check.due("the other first", gate.cut(1), 1);
        check.due("then this", gate.cut(0), -2);
        ClassGate asked = check.kept("again", maker);
        check.due("instructions without cut", asked.instruction(1, 0, 0), 177);
        check.due("of wrong code", asked.instruction(0, 0, 0), -1);
    }

    /** "the PLACE of the first that is none of 0 to 201". */
    private static void opcodesThatAreNone() {
        Maker maker = new Maker(50);
        for (int opcode = 202; opcode < 256; opcode++) {
            for (int before : new int[] {0, 1, 7}) {
                cut("opcode " + opcode, maker, 0, -2 - before, nops(before), op(opcode, nops(10)));
            }
        }
        cut("opcode 0", maker, 0, 1, op(0));
        cut("opcode 201", maker, 0, 1, op(201, s4(0)));
        cut("opcode 200", maker, 0, 1, op(200, s4(0)));
    }

    /** "or whose operands .. go beyond the code": the last byte of the code is the last of an operand, or is missing. */
    private static void operandsBeyondTheCode() {
        Maker maker = new Maker(50);
        int number = maker.number(1);
        int longOne = maker.wide(5, 1);
        int field = maker.ref(9, "B", "f", "I");
        int method = maker.ref(10, "B", "m", "()V");
        int ofInterface = maker.ref(11, "B", "m", "()V");
        int array = maker.type("[[I");
        int[][] all = {{16, 1}, {17, 0, 1}, {18, number}, {19, 0, number}, {20, 0, longOne}, {21, 0}, {25, 0}, {54, 0}, {58, 0}, {132, 0, 0},
            {153, 0, 0}, {166, 0, 0}, {167, 0, 0}, {168, 0, 0}, {169, 0}, {178, 0, field}, {181, 0, field}, {182, 0, method},
            {183, 0, method}, {184, 0, method}, {185, 0, ofInterface, 1, 0}, {187, 0, 2}, {188, 4}, {189, 0, 2}, {192, 0, 2}, {193, 0, 2},
            {196, 21, 0, 0}, {196, 169, 0, 0}, {196, 132, 0, 0, 0, 0}, {197, 0, array, 1}, {198, 0, 0}, {199, 0, 0}, {200, 0, 0, 0, 0},
            {201, 0, 0, 0, 0}, table(0, 0, 0, 0, 0), table(0, 0, 0, 2, 0, 0, 0), lookup(0, 0, 0), lookup(0, 0, 2, 0, 0, 1, 0)};
        for (int[] code : all) {
            cut("whole " + code[0], maker, 1, 1, code);
            for (int length = 1; length < code.length; length++) {
                cut("cut " + code[0] + " to " + length, maker, 1, -2, Arrays.copyOf(code, length));
            }
        }
        Maker dynamic = new Maker(61);
        int handle = dynamic.handle(6, dynamic.ref(10, "B", "m", "()V"));
        int call = dynamic.dynamic(18, 0, "m", "()V");
        dynamic.attributes.add(dynamic.attribute("BootstrapMethods", Maker.u2(1, handle, 0)));
        int[] code = {186, 0, call, 0, 0};
        cut("whole 186", dynamic, 1, 1, code);
        for (int length = 1; length < code.length; length++) {
            cut("cut 186 to " + length, dynamic, 1, -2, Arrays.copyOf(code, length));
        }
    }

    /** "pads that are 0 too": from none to three of them, by the switch's place in the code. */
    private static void pads() {
        Maker maker = new Maker(61);
        for (int before = 0; before <= 8; before++) {
            for (int[] one : new int[][] {table(before, 0, 0, 0, 0), lookup(before, 0, 1, 0, 0)}) {
                cut("behind " + before, maker, 0, before + 1, nops(before), one);
                int pads = 3 - before % 4;
                for (int pad = 1; pad <= pads; pad++) {
                    for (int value : new int[] {1, 128, 255}) {
                        int[] wrong = one.clone();
                        wrong[pad] = value;
                        cut("pad " + pad + " is " + value, maker, 0, -2 - before, nops(before), wrong);
                    }
                }
            }
        }
    }

    /** "low not above high". */
    private static void lowAndHigh() {
        Maker maker = new Maker(61);
        for (int low : new int[] {LOWEST, -1, 0, 1, GREATEST}) {
            cut("just " + low, maker, 0, 1, table(0, 0, low, low, 0));
            if (low > LOWEST) {
                cut("low " + low + " above high", maker, 0, -2, table(0, 0, low, low - 1, 0));
                cut("low " + low + " above lowest", maker, 0, -2, table(0, 0, low, LOWEST, 0));
            }
            if (low < GREATEST) {
                cut("two from " + low, maker, 0, 1, table(0, 0, low, low + 1, 0, 0));
                cut("two from " + low + ", and one is not there", maker, 0, -2, table(0, 0, low, low + 1, 0));
            }
        }
        int[] high = {GREATEST, GREATEST - 1, -1, 0x3FFFFFFF, 0x40000000, 0x3FFFFFFE, 0x7FFFFFF0};
        for (int one : high) {
            cut("far more than there are " + one, maker, 0, -2, table(0, 0, LOWEST, one, 0));
            cut("more than there are " + one, maker, 0, -2, table(0, 0, one < 0 ? LOWEST : 0, one, 0));
        }
    }

    /** "pairs not below 0". */
    private static void pairs() {
        Maker maker = new Maker(61);
        cut("no pairs", maker, 0, 1, lookup(0, 0, 0));
        cut("one pair", maker, 0, 1, lookup(0, 0, 1, 5, 0));
        cut("one pair, and it is not there", maker, 0, -2, lookup(0, 0, 1));
        for (int number : new int[] {-1, -2, LOWEST, LOWEST + 1, GREATEST, 0x10000000, 0x20000000, 0x1FFFFFFF, 0xE0000000, 0xF0000001}) {
            cut("pairs " + number, maker, 0, -2, lookup(0, 0, number));
            cut("pairs " + number + " with one", maker, 0, -2, lookup(0, 0, number, 5, 0));
        }
    }

    /** "keys rising". */
    private static void keysRise() {
        Maker maker = new Maker(61);
        int[][] right = {{0, 1}, {-1, 0}, {LOWEST, GREATEST}, {LOWEST, LOWEST + 1}, {GREATEST - 1, GREATEST}, {-2, -1}};
        for (int[] keys : right) {
            cut("rising", maker, 0, 1, lookup(0, 0, 2, keys[0], 0, keys[1], 0));
            cut("falling", maker, 0, -2, lookup(0, 0, 2, keys[1], 0, keys[0], 0));
            cut("the same", maker, 0, -2, lookup(0, 0, 2, keys[0], 0, keys[0], 0));
            cut("the same at last", maker, 0, -2, lookup(0, 0, 3, keys[0], 0, keys[1], 0, keys[1], 0));
        }
        cut("three", maker, 0, 1, lookup(0, 0, 3, -7, 0, 0, 0, 9, 0));
        cut("the third falls", maker, 0, -2, lookup(0, 0, 3, -7, 0, 9, 0, 0, 0));
        cut("one alone", maker, 0, 1, lookup(0, 0, 1, LOWEST, 0));
    }

    /** "wide before another than 6.5 has". */
    private static void whatIsWide() {
        Maker maker = new Maker(50);
        for (int opcode = 0; opcode < 256; opcode++) {
            boolean isLocal = opcode >= 21 && opcode <= 25 || opcode >= 54 && opcode <= 58 || opcode == 169;
            if (isLocal) {
                between("wide " + opcode, maker, 2, true, wide(opcode, 0));
            } else if (opcode == 132) {
                between("wide iinc", maker, 2, true, wide(132, 1), s2(-1));
            } else {
                cut("wide " + opcode, maker, 2, -3, nops(1), wide(opcode, 0), nops(20));
            }
        }
    }

    /** "jsr, jsr_w, ret from version 51 on". */
    private static void subroutines() {
        for (int major = 45; major <= 61; major++) {
            Maker maker = new Maker(major);
            boolean isRight = major < 51;
            between("jsr in " + major, maker, 1, isRight, op(168, s2(0)));
            between("jsr_w in " + major, maker, 1, isRight, op(201, s4(0)));
            between("ret in " + major, maker, 1, isRight, local(169, 0));
            between("wide ret in " + major, maker, 1, isRight, wide(169, 0));
            between("goto_w in " + major, maker, 1, true, op(200, s4(0)));
        }
    }

    /** "a local of which a place is not below max_locals": of int, float, reference, iinc and ret. */
    private static void localsOfOnePlace() {
        Maker maker = new Maker(50);
        int[] most = {1, 4, 255, 256, 257, 65535};
        for (int locals : most) {
            for (int opcode : new int[] {21, 23, 25, 54, 56, 58, 169}) {
                between("wide " + opcode, maker, locals, true, wide(opcode, locals - 1));
                if (locals <= 256) {
                    between("last of " + locals, maker, locals, true, local(opcode, locals - 1));
                }
                if (locals <= 255) {
                    between("none of " + locals, maker, locals, false, local(opcode, locals));
                }
                between("no wide " + opcode, maker, locals, false, wide(opcode, locals));
            }
            between("wide iinc", maker, locals, true, wide(132, locals - 1), s2(1));
            between("no wide iinc", maker, locals, false, wide(132, locals), s2(1));
            if (locals <= 255) {
                between("iinc", maker, locals, true, local(132, locals - 1), new int[] {1});
                between("no iinc", maker, locals, false, local(132, locals), new int[] {1});
            }
        }
        for (int locals = 0; locals <= 5; locals++) {
            for (int n = 0; n < 4; n++) {
                for (int first : new int[] {26, 34, 42, 59, 67, 75}) {
                    between("short " + (first + n), maker, locals, n < locals, new int[] {first + n});
                }
            }
        }
    }

    /** The same of long and double, which have two places. */
    private static void localsOfTwoPlaces() {
        Maker maker = new Maker(61);
        for (int locals : new int[] {0, 1, 2, 3, 5, 256, 257, 65535}) {
            for (int opcode : new int[] {22, 24, 55, 57}) {
                for (int index : new int[] {locals - 2, locals - 1, locals}) {
                    if (index >= 0 && index <= 255) {
                        between(opcode + " " + index + " of " + locals, maker, locals, index + 2 <= locals, local(opcode, index));
                    }
                    if (index >= 0) {
                        between("wide " + opcode + " " + index + " of " + locals, maker, locals, index + 2 <= locals, wide(opcode, index));
                    }
                }
            }
            for (int n = 0; n < 4; n++) {
                for (int first : new int[] {30, 38, 63, 71}) {
                    between("short " + (first + n), maker, locals, n + 2 <= locals, new int[] {first + n});
                }
            }
        }
    }

    /** "newarray's kind". */
    private static void kindsOfNewarray() {
        Maker maker = new Maker(61);
        for (int kind = 0; kind < 256; kind++) {
            between("newarray " + kind, maker, 0, kind >= 4 && kind <= 11, new int[] {188, kind});
        }
    }

    /** Indexes of each kind by its tag, and at the end what is no entry. */
    private static int[][] oneOfEach(Maker maker) {
        int longOne = maker.wide(5, 1);
        int ref = maker.ref(10, "B", "m", "()V");
        int handle = maker.major >= 51 ? maker.handle(5, ref) : 1;
        int type = maker.major >= 51 ? maker.methodType("()V") : 1;
        int module = maker.major >= 53 ? maker.entry(Maker.u1(19), Maker.u2(1)) : 1;
        int dynamic = maker.major >= 55 ? maker.dynamic(17, 0, "f", "I") : 1;
        int call = maker.major >= 51 ? maker.dynamic(18, 0, "m", "()V") : 1;
        if (maker.major >= 51) {
            maker.attributes.add(maker.attribute("BootstrapMethods", Maker.u2(1, handle, 0)));
        }
        int doubleOne = maker.wide(6, 1);
        int[][] all = {{1, 1}, {3, maker.number(1)}, {4, maker.floating(1)}, {5, longOne}, {6, doubleOne}, {7, 2}, {8, maker.string("s")},
            {9, maker.ref(9, "B", "f", "I")}, {10, ref}, {11, maker.ref(11, "B", "m", "()V")}, {12, maker.pair("f", "I")},
            {handle == 1 ? 1 : 15, handle}, {type == 1 ? 1 : 16, type}, {dynamic == 1 ? 1 : 17, dynamic}, {call == 1 ? 1 : 18, call},
            {module == 1 ? 1 : 19, module}, {0, 0}, {0, longOne + 1}, {0, doubleOne + 1}, {0, 0}};
        maker.text("Code");
        maker.text("m");
        all[all.length - 1][1] = maker.entries.size();
        return all;
    }

    private static void constant(Maker maker, int tag, int index, boolean isRight) {
        String what = "tag " + tag + " in " + maker.major;
        if (index <= 255) {
            between("ldc of " + what, maker, 0, isRight, new int[] {18, index});
        }
        between("ldc_w of " + what, maker, 0, isRight, op(19, s2(index)));
    }

    /** "a pool index to what 6.5 does not have there (ldc, ldc_w: 3, 4, 8 ..)": ldc has 255 at most, ldc_w has all. */
    private static void constantsOfOnePlace() {
        for (int major : new int[] {45, 61}) {
            Maker maker = new Maker(major);
            for (int[] one : oneOfEach(maker)) {
                boolean isRight = one[0] == 3 || one[0] == 4 || one[0] == 8
                        || major == 61 && (one[0] == 7 || one[0] == 15 || one[0] == 16 || one[0] == 17);
                constant(maker, one[0], one[1], isRight);
            }
            constant(maker, 0, 65535, false);
        }
        Maker many = new Maker(61);
        many.text("Code");
        many.text("m");
        many.text("()V");
        while (many.entries.size() < 255) {
            many.entry(Maker.utf8("t"));
        }
        int last = many.number(255);
        int next = many.number(256);
        between("ldc of 255", many, 0, true, new int[] {18, last});
        between("ldc_w of 255", many, 0, true, op(19, s2(last)));
        between("ldc_w of 256", many, 0, true, op(19, s2(next)));
        between("ldc of 0, which 256 is not", many, 0, false, new int[] {18, next & 255});
        between("ldc_w of none", many, 0, false, op(19, s2(next + 1)));
    }

    /** "7 from version 49, 15, 16 from 51". */
    private static void constantsByVersion() {
        for (int major = 45; major <= 61; major++) {
            Maker maker = new Maker(major);
            for (int[] one : oneOfEach(maker)) {
                if (one[0] == 7) {
                    constant(maker, 7, one[1], major >= 49);
                }
                if (one[0] == 15 || one[0] == 16) {
                    constant(maker, one[0], one[1], true);
                }
            }
        }
    }

    /** "17 from 55 on if its type is of one place", "or 17 of two places". */
    private static void dynamicConstants() {
        for (String type : new String[] {"I", "Z", "LA;", "[J", "[[D", "J", "D"}) {
            Maker maker = new Maker(55);
            int handle = maker.handle(6, maker.ref(10, "B", "m", "()V"));
            maker.attributes.add(maker.attribute("BootstrapMethods", Maker.u2(1, handle, 0)));
            int k = maker.dynamic(17, 0, "f", type);
            boolean isTwo = type.equals("J") || type.equals("D");
            constant(maker, 17, k, !isTwo);
            between("ldc2_w of " + type, maker, 0, isTwo, op(20, s2(k)));
        }
    }

    /** "ldc2_w: 5, 6, ..". */
    private static void constantsOfTwoPlaces() {
        for (int major : new int[] {45, 50, 51, 55, 61}) {
            Maker maker = new Maker(major);
            for (int[] one : oneOfEach(maker)) {
                between("ldc2_w of " + one[0], maker, 0, one[0] == 5 || one[0] == 6, op(20, s2(one[1])));
            }
            between("ldc2_w of none", maker, 0, false, op(20, s2(65535)));
        }
    }

    /** Of the fields' four, a Fieldref alone. */
    private static void fields() {
        for (int major : new int[] {45, 61}) {
            Maker maker = new Maker(major);
            for (int[] one : oneOfEach(maker)) {
                for (int opcode = 178; opcode <= 181; opcode++) {
                    between(opcode + " of " + one[0], maker, 0, one[0] == 9, op(opcode, s2(one[1])));
                }
            }
        }
    }

    /** "invokespecial, invokestatic: a Methodref, from 52 on an InterfaceMethodref too"; and the other calls. */
    private static void methodsByVersion() {
        for (int major = 45; major <= 61; major++) {
            Maker maker = new Maker(major);
            for (int[] one : oneOfEach(maker)) {
                int[] index = s2(one[1]);
                boolean isEither = one[0] == 10 || one[0] == 11 && major >= 52;
                between("invokevirtual of " + one[0], maker, 0, one[0] == 10, op(182, index));
                between("invokespecial of " + one[0] + " in " + major, maker, 0, isEither, op(183, index));
                between("invokestatic of " + one[0] + " in " + major, maker, 0, isEither, op(184, index));
                between("invokeinterface of " + one[0], maker, 0, one[0] == 11, op(185, index, new int[] {1, 0}));
                between("invokedynamic of " + one[0], maker, 0, one[0] == 18, op(186, index, s2(0)));
            }
        }
    }

    /** "<init> just for invokespecial". */
    private static void initJustForInvokespecial() {
        for (int major : new int[] {45, 51, 52, 61}) {
            Maker maker = new Maker(major);
            int init = maker.ref(10, "B", "<init>", "()V");
            int method = maker.ref(10, "B", "init", "()V");
            for (int opcode = 182; opcode <= 184; opcode++) {
                between(opcode + " of <init>", maker, 0, opcode == 183, op(opcode, s2(init)));
                between(opcode + " of init", maker, 0, true, op(opcode, s2(method)));
            }
        }
    }

    /** "new: no array". */
    private static void newIsNoArray() {
        Maker maker = new Maker(61);
        for (String name : new String[] {"B", "b/B", "I"}) {
            between("new " + name, maker, 0, true, op(187, s2(maker.type(name))));
        }
        for (String name : new String[] {"[I", "[LB;", "[[J", "[".repeat(255) + "I"}) {
            between("new " + name, maker, 0, false, op(187, s2(maker.type(name))));
        }
        for (int[] one : oneOfEach(maker)) {
            between("new of " + one[0], maker, 0, one[0] == 7, op(187, s2(one[1])));
        }
    }

    /** "multianewarray: dimensions 1 to those of its type". */
    private static void dimensionsOfMultianewarray() {
        Maker maker = new Maker(61);
        for (int number : new int[] {0, 1, 2, 3, 128, 254, 255}) {
            for (String type : new String[] {"J", "LB;"}) {
                String name = number == 0 ? "B" : "[".repeat(number) + type;
                int k = maker.type(name);
                for (int dimensions : new int[] {0, 1, number - 1, number, number + 1, 128, 255}) {
                    if (dimensions >= 0 && dimensions <= 255) {
                        between(dimensions + " of " + number, maker, 0, dimensions >= 1 && dimensions <= number,
                                op(197, s2(k), new int[] {dimensions}));
                    }
                }
            }
        }
        for (int[] one : oneOfEach(maker)) {
            between("multianewarray of " + one[0], maker, 0, false, op(197, s2(one[1]), new int[] {1}));
        }
        between("of a text", maker, 0, false, op(197, s2(maker.text("[[I")), new int[] {1}));
    }

    /** 4.9.1: anewarray makes no array of more than 255 dimensions. */
    private static void arraysOfArrays() {
        Maker maker = new Maker(61);
        for (int number : new int[] {1, 253, 254, 255}) {
            between("anewarray of " + number, maker, 0, number <= 254, op(189, s2(maker.type("[".repeat(number) + "I"))));
        }
        between("anewarray of a class", maker, 0, true, op(189, s2(maker.type("B"))));
    }

    /** "invokeinterface's count ..": the places of the arguments and one. */
    private static void countOfInvokeinterface() {
        Maker maker = new Maker(61);
        String[] types = {"()V", "(I)J", "(J)V", "(D)D", "([J[D)V", "(LB;I)V", "(" + "I".repeat(253) + ")V", "(" + "I".repeat(254) + ")V",
            "(" + "J".repeat(127) + ")V"};
        int[] counts = {1, 2, 3, 3, 3, 3, 254, 255, 255};
        for (int i = 0; i < types.length; i++) {
            int k = maker.ref(11, "B", "m", types[i]);
            for (int count = 0; count < 256; count++) {
                if (Math.abs(count - counts[i]) < 3 || count % 51 == 0) {
                    between("count " + count + " of " + counts[i], maker, 0, count == counts[i], op(185, s2(k), new int[] {count, 0}));
                }
            }
        }
        int most = maker.ref(11, "B", "m", "(" + "I".repeat(255) + ")V");
        for (int count : new int[] {0, 1, 254, 255}) {
            between("256 places have no count", maker, 0, false, op(185, s2(most), new int[] {count, 0}));
        }
    }

    /** ".. and zero". */
    private static void zeroOfInvokeinterface() {
        Maker maker = new Maker(61);
        int k = maker.ref(11, "B", "m", "()V");
        for (int zero : new int[] {0, 1, 2, 128, 255}) {
            between("zero " + zero, maker, 0, zero == 0, op(185, s2(k), new int[] {1, zero}));
        }
    }

    /** "invokedynamic's zeros". */
    private static void zerosOfInvokedynamic() {
        Maker maker = new Maker(51);
        int handle = maker.handle(6, maker.ref(10, "B", "m", "()V"));
        int k = maker.dynamic(18, 0, "m", "()V");
        maker.attributes.add(maker.attribute("BootstrapMethods", Maker.u2(1, handle, 0)));
        for (int first : new int[] {0, 1, 255}) {
            for (int second : new int[] {0, 1, 255}) {
                between("zeros " + first + " " + second, maker, 0, first == 0 && second == 0, op(186, s2(k), new int[] {first, second}));
            }
        }
    }

    /** "checkcast and the like: a Class". */
    private static void checkcastAndTheLike() {
        Maker maker = new Maker(61);
        int[][] all = oneOfEach(maker);
        for (int opcode : new int[] {189, 192, 193}) {
            for (int[] one : all) {
                between(opcode + " of " + one[0], maker, 0, one[0] == 7, op(opcode, s2(one[1])));
            }
            between(opcode + " of an array", maker, 0, true, op(opcode, s2(maker.type("[I"))));
        }
        between("checkcast of the deepest", maker, 0, true, op(192, s2(maker.type("[".repeat(255) + "I"))));
        between("instanceof of the deepest", maker, 0, true, op(193, s2(maker.type("[".repeat(255) + "I"))));
    }

    /** "a target of a jump .. that is not where an instruction begins": each place of a code, and those around it. */
    private static void targetsOfJumps() {
        Maker maker = new Maker(50);
        for (int opcode = 153; opcode <= 201; opcode++) {
            boolean isShort = opcode <= 168 || opcode == 198 || opcode == 199;
            if (isShort || opcode >= 200) {
                int size = isShort ? 3 : 5;
                // A nop, sipush at 1, wide iload at 4, the jump at 8, and a return behind it.
                int[] starts = {0, 1, 4, 8, 8 + size};
                for (int target = -2; target <= 8 + size + 2; target++) {
                    int aimed = target;
                    boolean isRight = Arrays.stream(starts).anyMatch(start -> start == aimed);
                    int[] jump = op(opcode, isShort ? s2(target - 8) : s4(target - 8));
                    int[] code = join(nops(1), op(17, s2(7)), wide(21, 0), jump, new int[] {177});
                    cut(opcode + " to " + target, maker, 1, isRight ? 5 : -10, code);
                }
            }
        }
        for (int by : new int[] {LOWEST, LOWEST + 1, GREATEST, GREATEST - 1, 65536, -65536, 0x10001}) {
            cut("goto_w by " + by, maker, 0, -2, op(200, s4(by)), nops(2));
            cut("goto_w by " + by + " from 1", maker, 0, -3, nops(1), op(200, s4(by)), nops(2));
        }
        for (int by : new int[] {-32768, 32767, -1, 256}) {
            cut("goto by " + by, maker, 0, -2, op(167, s2(by)), nops(2));
        }
    }

    /** "a target of a .. switch": its default, its first, and its last. */
    private static void targetsOfSwitches() {
        Maker maker = new Maker(61);
        for (int target : new int[] {LOWEST, -5, -4, -1, 0, 1, 3, 23, 24, 25, 26, 27, 28, GREATEST}) {
            // Four nops, then a switch of 24 (table) or 24 (lookup) bytes, then sipush and a return.
            boolean isRight = target == -4 || target == -1 || target == 0 || target == 24 || target == 27;
            int[] behind = {17, 0, 0, 177};
            int due = isRight ? 7 : -6;
            cut("default to " + target, maker, 0, due, nops(4), table(4, target, 1, 2, 0, 0), behind);
            cut("first to " + target, maker, 0, due, nops(4), table(4, 0, 1, 2, target, 0), behind);
            cut("last to " + target, maker, 0, due, nops(4), table(4, 0, 1, 2, 0, target), behind);
            int[] more = {0, 0, 0, 0, 17, 0, 0, 177};
            boolean isRightThere = target == -4 || target == -1 || target == 0 || target >= 20 && target <= 24 || target == 27;
            int dueThere = isRightThere ? 11 : -6;
            cut("lookup's default to " + target, maker, 0, dueThere, nops(4), lookup(4, target, 1, 9, 0), more);
            cut("lookup's only to " + target, maker, 0, dueThere, nops(4), lookup(4, 0, 1, 9, target), more);
        }
    }

    /** "First, instruction by instruction .. Then, likewise by PLACE": a later operand comes before an earlier target. */
    private static void operandsBeforeTargets() {
        Maker maker = new Maker(61);
        cut("a target, then an opcode", maker, 0, -5, op(167, s2(99)), new int[] {202});
        cut("a target, then a kind", maker, 0, -6, op(167, s2(99)), nops(1), new int[] {188, 3});
        cut("a target, then a switch's pad", maker, 0, -6, op(167, s2(99)), nops(1), new int[] {171, 0, 0, 1}, s4(0, 0));
        cut("a target alone", maker, 0, -2, op(167, s2(99)), nops(1), new int[] {188, 4});
        cut("a target into what is wrong", maker, 0, -5, op(167, s2(3)), new int[] {255});
    }

    /** "the PLACE of the first": of two operands, or of two targets. */
    private static void firstByPlace() {
        Maker maker = new Maker(61);
        cut("two kinds", maker, 0, -4, nops(2), new int[] {188, 3, 188, 3});
        cut("two targets", maker, 0, -4, nops(2), op(167, s2(1)), op(167, s2(1)));
        cut("a switch's target and a jump's", maker, 0, -2, table(0, 0, 0, 1, 0, 1), op(167, s2(1)));
        cut("a jump's and a switch's", maker, 0, -2, op(167, s2(1)), nops(1), lookup(4, 1, 0));
        cut("a right jump before", maker, 0, -5, op(167, s2(3)), op(167, s2(1)), new int[] {177});
        cut("a wrong one at a great place", maker, 0, -2 - 60000, nops(60000), new int[] {202});
        cut("a wrong target at a great place", maker, 0, -2 - 60000, nops(60000), op(167, s2(1)), op(167, s2(1)));
    }

    /** Jumps so far as their operands go, in a long code. */
    private static void farJumps() {
        Maker maker = new Maker(61);
        ClassGate gate = gateOf(maker, 0, op(167, s2(32767)), nops(32764), op(167, s2(-32767)), op(200, s4(-32770)));
        int number = 1 + 32764 + 2;
        check.due("a long code", gate.cut(0), number);
        check.due("as far on as can be", gate.instruction(0, 0, 2), 32765);
        check.due("back", gate.instruction(0, 32765, 2), 0);
        check.due("far back", gate.instruction(0, 32766, 2), 0);
        gate = gateOf(maker, 0, nops(32768), op(167, s2(-32768)), op(200, s4(-32771)), op(200, s4(5)), nops(1));
        check.due("as far back as can be", gate.instruction(0, 32768, 2), 0);
        check.due("by a long form", gate.instruction(0, 32769, 2), 0);
        check.due("to the last", gate.instruction(0, 32770, 2), 32771);
        gate = gateOf(maker, 0, op(200, s4(60000)), nops(59995), op(200, s4(-60000)));
        check.due("farther than a short form", gate.instruction(0, 0, 2), 59996);
        check.due("and back", gate.instruction(0, 59996, 2), 0);
        check.due("the last place", gate.instruction(0, 59996, 1), 60000);
    }

    private static void told(String what, Maker maker, int[] code, int... due) {
        ClassGate gate = gateOf(maker, 65535, nops(1), code, new int[] {177});
        for (int i = 0; i < due.length; i++) {
            check.due(what + " what " + i, gate.instruction(0, 1, i), due[i]);
        }
    }

    /** "(jsr_w, goto_w, wide forms, ldc_w, the short loads and stores are told as what they are .. forms of; ldc as 18.)" */
    private static void longAndShortForms() {
        Maker maker = new Maker(50);
        int number = maker.number(7);
        told("jsr", maker, op(168, s2(-1)), 168, 1, 0, 0, 0);
        told("jsr_w", maker, op(201, s4(-1)), 168, 1, 0, 0, 0);
        told("goto", maker, op(167, s2(-1)), 167, 1, 0, 0, 0);
        told("goto_w", maker, op(200, s4(-1)), 167, 1, 0, 0, 0);
        told("ldc", maker, new int[] {18, number}, 18, 1, number, 0, 0);
        told("ldc_w", maker, op(19, s2(number)), 18, 1, number, 0, 0);
        for (int i = 0; i < 5; i++) {
            for (int base : new int[] {21, 54}) {
                told("wide", maker, wide(base + i, 65533), base + i, 1, 65533, 0, 0);
                told("plain", maker, local(base + i, 255), base + i, 1, 255, 0, 0);
                for (int n = 0; n < 4; n++) {
                    told("short", maker, new int[] {base + 5 + 4 * i + n}, base + i, 1, n, 0, 0);
                }
            }
        }
        told("wide ret", maker, wide(169, 65534), 169, 1, 65534, 0, 0);
        told("wide iinc", maker, join(wide(132, 65534), s2(-32768)), 132, 1, 65534, -32768, 0);
        told("ldc2_w has no other form", maker, op(20, s2(maker.wide(5, 1))), 20, 1, maker.wideAt(), 0, 0);
        for (int opcode : new int[] {0, 1, 2, 3, 8, 9, 10, 11, 13, 14, 15, 46, 53, 79, 86, 87, 95, 96, 131, 133, 147, 148, 152, 172, 177, 190,
            191, 194, 195}) {
            told("told as itself " + opcode, maker, new int[] {opcode}, opcode, 1, 0, 0, 0);
        }
    }

    /** Promise 15: "-1 if there is no such method, or it has no Code". */
    private static void cutOfNone() {
        Maker maker = new Maker(61);
        maker.method(257, "a", "()V");
        maker.method(1025, "b", "()V");
        maker.coded("c", 0, 177);
        ClassGate gate = check.kept("methods", maker);
        check.due("native", gate.cut(0), -1);
        check.due("abstract", gate.cut(1), -1);
        check.due("with Code", gate.cut(2), 1);
        for (int m : new int[] {-1, -2, LOWEST, 3, 4, 65536, GREATEST}) {
            check.due("no method " + m, gate.cut(m), -1);
        }
        check.due("no methods", check.kept("none", new Maker(61)).cut(0), -1);
    }

    /** "if its code is WRONG by 3, minus 2 and the PLACE in it": as often as it is asked for. */
    private static void cutOfWrongCode() {
        Maker maker = new Maker(61);
        for (int place : new int[] {0, 1, 2, 100}) {
            ClassGate gate = gateOf(maker, 0, nops(place), new int[] {202});
            for (int round = 0; round < 3; round++) {
                check.due("wrong at " + place, gate.cut(0), -2 - place);
            }
        }
        for (int number : new int[] {1, 2, 3, 1000}) {
            ClassGate gate = gateOf(maker, 0, nops(number));
            for (int round = 0; round < 3; round++) {
                check.due("instructions", gate.cut(0), number);
            }
        }
    }

    /** Promise 16: "its first and second operand (a local, a number, a pool index, dimensions, newarray's kind ..)". */
    private static void instructionOfEach() {
        Maker maker = new Maker(61);
        for (int value : new int[] {-128, -1, 0, 127}) {
            told("bipush", maker, new int[] {16, value & 255}, 16, 1, value, 0, 0);
            told("iinc", maker, new int[] {132, 200, value & 255}, 132, 1, 200, value, 0);
        }
        for (int value : new int[] {-32768, -1, 0, 255, 256, 32767}) {
            told("sipush", maker, op(17, s2(value)), 17, 1, value, 0, 0);
            told("wide iinc", maker, join(wide(132, 300), s2(value)), 132, 1, 300, value, 0);
        }
        for (int kind : new int[] {4, 11}) {
            told("newarray", maker, new int[] {188, kind}, 188, 1, kind, 0, 0);
        }
        int array = maker.type("[".repeat(255) + "I");
        for (int dimensions : new int[] {1, 127, 128, 255}) {
            told("multianewarray", maker, op(197, s2(array), new int[] {dimensions}), 197, 1, array, dimensions, 0);
        }
        for (int opcode : new int[] {187, 189, 192, 193}) {
            told("of a class", maker, op(opcode, s2(2)), opcode, 1, 2, 0, 0);
        }
        int field = maker.ref(9, "B", "f", "I");
        int method = maker.ref(10, "B", "m", "()V");
        for (int opcode = 178; opcode <= 184; opcode++) {
            int k = opcode <= 181 ? field : method;
            told("of a member", maker, op(opcode, s2(k)), opcode, 1, k, 0, 0);
        }
        int ofInterface = maker.ref(11, "B", "m", "(" + "J".repeat(100) + ")V");
        told("invokeinterface", maker, op(185, s2(ofInterface), new int[] {201, 0}), 185, 1, ofInterface, 201, 0);
        while (maker.entries.size() < 300) {
            maker.entry(Maker.utf8("t"));
        }
        int great = maker.ref(9, "Great", "g", "I");
        told("a pool index above 255", maker, op(178, s2(great)), 178, 1, great, 0, 0);
    }

    /** "low and high of tableswitch; how many pairs of lookupswitch", "how many places a switch has with its default". */
    private static void operandsOfSwitches() {
        Maker maker = new Maker(61);
        int[][] bounds = {{0, 0}, {-1, 1}, {LOWEST, LOWEST}, {GREATEST, GREATEST}, {LOWEST, LOWEST + 2}, {GREATEST - 2, GREATEST}};
        for (int[] one : bounds) {
            int number = one[1] - one[0] + 1;
            told("tableswitch", maker, table(1, 0, one[0], one[1], nops(number)), 170, 1, one[0], one[1], number + 1);
        }
        told("no pairs", maker, lookup(1, 0, 0), 171, 1, 0, 0, 1);
        told("one pair", maker, lookup(1, 0, 1, LOWEST, 0), 171, 1, 1, 0, 2);
        told("three pairs", maker, lookup(1, 0, 3, -1, 0, 0, 0, 1, 0), 171, 1, 3, 0, 4);
        for (int opcode : new int[] {0, 167, 177}) {
            int[] code = opcode == 167 ? op(167, s2(0)) : new int[] {opcode};
            check.due("no switch has no places", gateOf(maker, 0, code).instruction(0, 0, 4), 0);
        }
    }

    /** "of jumps the instruction that is jumped to": its number, not its place. */
    private static void jumpsToInstructions() {
        Maker maker = new Maker(61);
        int[] code = join(op(17, s2(1)), op(167, s2(6)), op(17, s2(2)), op(154, s2(-9)), op(198, s2(0)), op(200, s4(5)), new int[] {177});
        ClassGate gate = gateOf(maker, 0, code);
        int[] numbers = {1, 3, 3, 0, 4, 4, 5, 6};
        for (int i = 0; i < numbers.length; i += 2) {
            check.due("instruction " + numbers[i] + " jumps to", gate.instruction(0, numbers[i], 2), numbers[i + 1]);
            check.due("and has no other operand", gate.instruction(0, numbers[i], 3), 0);
        }
        int[] places = {0, 3, 6, 9, 12, 15, 20};
        for (int k = 0; k < places.length; k++) {
            check.due("place of " + k, gate.instruction(0, k, 1), places[k]);
        }
    }

    /** What is told of an instruction does not hang on which one was asked for before. */
    private static void instructionsInAnyOrder() {
        Maker maker = new Maker(61);
        int array = maker.type("[[I");
        int field = maker.ref(9, "B", "f", "I");
        int ofInterface = maker.ref(11, "B", "m", "(I)V");
        int[] code = join(op(17, s2(300)), nops(1), new int[] {132, 1, 250}, op(197, s2(array), new int[] {2}), new int[] {177},
                op(185, s2(ofInterface), new int[] {2, 0}), op(178, s2(field)), table(20, 0, 7, 9, 0, 28, -20), op(167, s2(3)),
                lookup(51, 0, 1, -6, 0), new int[] {3}, wide(22, 2), op(167, s2(0)), new int[] {87});
        ClassGate gate = gateOf(maker, 4, code);
        int[][] due = {{17, 0, 300, 0, 0}, {0, 3, 0, 0, 0}, {132, 4, 1, -6, 0}, {197, 7, array, 2, 0}, {177, 11, 0, 0, 0},
            {185, 12, ofInterface, 2, 0}, {178, 17, field, 0, 0}, {170, 20, 7, 9, 4}, {167, 48, 9, 0, 0}, {171, 51, 1, 0, 2},
            {3, 68, 0, 0, 0}, {22, 69, 2, 0, 0}, {167, 73, 12, 0, 0}, {87, 76, 0, 0, 0}};
        check.due("so many", gate.cut(0), due.length);
        for (int first = 0; first < due.length; first++) {
            for (int then = 0; then < due.length; then++) {
                for (int what = 0; what <= 4; what++) {
                    check.due("instruction " + first + " what " + what, gate.instruction(0, first, what), due[first][what]);
                    check.due("then " + then + " what " + what, gate.instruction(0, then, what), due[then][what]);
                    boolean isSwitch = due[then][4] > 0;
                    check.due("then a place", gate.jump(0, then, 0, false), isSwitch ? then : -1);
                }
            }
        }
    }

    /** Nor does it hang on the instruction before it whether one is right. */
    private static void oneInstructionBehindAnother() {
        Maker maker = new Maker(50);
        int[][] right = {{0}, {17, 1, 0}, {26}, {21, 0}, {196, 21, 0, 0}, {132, 0, 200}, {188, 4}, {192, 0, 2}, {167, 0, 0}, {200, 0, 0, 0, 0},
            {196, 132, 0, 0, 1, 0}, {30}};
        int[][] wrong = {{188, 3}, {28}, {31}, {21, 2}, {196, 21, 1, 0}, {192, 0, 1}, {18, 1}, {187, 0, 1}, {197, 0, 2, 1}, {202}};
        for (int[] first : right) {
            for (int[] then : right) {
                cut("right ones", maker, 2, 2, first, then);
            }
            for (int[] then : wrong) {
                cut("a wrong one behind it", maker, 2, -2 - first.length, first, then);
                cut("a wrong one before it", maker, 2, -2, then, first);
            }
        }
    }

    /** "-1 if there is none, or the code is WRONG". */
    private static void instructionThatIsNone() {
        Maker maker = new Maker(61);
        maker.method(257, "a", "()V");
        maker.coded("b", 0, 0, 177);
        maker.coded("c", 0, 0, 202);
        maker.coded("d", 0, 167, 0, 1, 177);
        ClassGate gate = check.kept("methods", maker);
        for (int what = 0; what <= 4; what++) {
            for (int k : new int[] {-1, LOWEST, 2, 3, 65536, GREATEST}) {
                check.due("no instruction " + k, gate.instruction(1, k, what), -1);
            }
            for (int m : new int[] {-1, LOWEST, 4, 65536, GREATEST, 0}) {
                check.due("no code of " + m, gate.instruction(m, 0, what), -1);
            }
            for (int k = -1; k <= 2; k++) {
                check.due("wrong by an opcode", gate.instruction(2, k, what), -1);
                check.due("wrong by a target", gate.instruction(3, k, what), -1);
            }
        }
        check.due("the last one", gate.instruction(1, 1, 0), 177);
    }

    /** "IllegalArgumentException for other whats": of whatever instruction. */
    private static void instructionOtherWhats() {
        Maker maker = new Maker(61);
        maker.coded("m", 0, 177);
        maker.coded("n", 0, 202);
        for (ClassGate gate : new ClassGate[] {new ClassGate(), check.kept("code", maker)}) {
            for (int what : new int[] {-1, LOWEST, 5, 6, GREATEST}) {
                for (int i : new int[] {-1, 0, 1}) {
                    check.refused("what " + what, IllegalArgumentException.class, () -> gate.instruction(0, i, what));
                    check.refused("what " + what, IllegalArgumentException.class, () -> gate.instruction(i, 0, what));
                }
            }
        }
    }

    /** Promise 17: "Of a switch: place i (the default is 0): the instruction that is jumped to". */
    private static void placesOfSwitches() {
        Maker maker = new Maker(61);
        int[] behind = {17, 0, 0, 177};
        ClassGate gate = gateOf(maker, 0, op(17, s2(0)), nops(1), table(4, 28, 5, 7, 28 + 3, -4, 0), behind);
        int[] due = {3, 4, 0, 2};
        for (int i = 0; i < due.length; i++) {
            check.due("place " + i + " of tableswitch", gate.jump(0, 2, i, false), due[i]);
        }
        gate = gateOf(maker, 0, op(17, s2(0)), nops(1), lookup(4, 36, 3, -9, 36 + 3, 0, -4, 9, 0), behind);
        for (int i = 0; i < due.length; i++) {
            check.due("place " + i + " of lookupswitch", gate.jump(0, 2, i, false), due[i]);
        }
    }

    /** "or (keys) the key that it stands for (of the default 0)". */
    private static void keysOfSwitches() {
        Maker maker = new Maker(61);
        int[][] bounds = {{5, 7}, {-1, 1}, {LOWEST, LOWEST + 2}, {GREATEST - 2, GREATEST}};
        for (int[] one : bounds) {
            ClassGate gate = gateOf(maker, 0, table(0, 0, one[0], one[1], 0, 0, 0));
            check.due("the default's", gate.jump(0, 0, 0, true), 0);
            for (int i = 1; i <= 3; i++) {
                check.due("key " + i, gate.jump(0, 0, i, true), one[0] + i - 1);
            }
        }
        int[] keys = {LOWEST, -1, 0, 1, 77777, GREATEST};
        ClassGate gate = gateOf(maker, 0, lookup(0, 0, 6, keys[0], 0, keys[1], 0, keys[2], 0, keys[3], 0, keys[4], 0, keys[5], 0));
        check.due("the default's", gate.jump(0, 0, 0, true), 0);
        for (int i = 0; i < keys.length; i++) {
            check.due("key " + i, gate.jump(0, 0, i + 1, true), keys[i]);
        }
    }

    /** "-1 if there is none": no place, no switch, no instruction, no method, or wrong code. */
    private static void jumpThatIsNone() {
        Maker maker = new Maker(61);
        maker.coded("a", 0, join(table(0, 0, 1, 2, 0, 0), op(167, s2(0)), new int[] {177}));
        maker.coded("b", 0, lookup(0, 0, 0));
        maker.coded("c", 0, lookup(0, 1, 0));
        maker.method(257, "d", "()V");
        ClassGate gate = check.kept("switches", maker);
        for (boolean keys : new boolean[] {true, false}) {
            for (int i : new int[] {-1, LOWEST, 3, 4, GREATEST}) {
                check.due("no place " + i, gate.jump(0, 0, i, keys), -1);
            }
            for (int k : new int[] {-1, LOWEST, 1, 2, 3, GREATEST}) {
                check.due("no switch " + k, gate.jump(0, k, 0, keys), -1);
            }
            for (int m : new int[] {-1, LOWEST, 3, 4, GREATEST}) {
                check.due("no code of " + m, gate.jump(m, 0, 0, keys), -1);
            }
            check.due("wrong code", gate.jump(2, 0, 0, keys), -1);
            check.due("the default alone", gate.jump(1, 0, 0, keys), 0);
            check.due("no pair", gate.jump(1, 0, 1, keys), -1);
        }
        check.due("the last place", gate.jump(0, 0, 2, true), 2);
    }
}
