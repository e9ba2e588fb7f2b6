import java.util.Arrays;

/** Promises 15 to 17: code that is cut into instructions. */
public final class CodeTest {
    private static final Check check = new Check();
    private static final int LOWEST = Integer.MIN_VALUE;
    private static final int GREATEST = Integer.MAX_VALUE;

    public static void main(String[] args) {
        everyOpcode();
        plainOperands();
        localsAndTheirForms();
        localsTooGreat();
        subroutines();
        jumps();
        longJumps();
        tableSwitches();
        lookupSwitches();
        wide();
        constants();
        fieldsAndMethods();
        interfaceCalls();
        dynamicCalls();
        classes();
        arrays();
        whatIsWrongFirst();
        severalMethods();
        check.end();
    }

    private static int[] join(int[]... parts) {
        int length = 0;
        for (int[] part : parts) {
            length += part.length;
        }
        int[] all = new int[length];
        int at = 0;
        for (int[] part : parts) {
            System.arraycopy(part, 0, all, at, part.length);
            at += part.length;
        }
        return all;
    }

    private static int[] s2(int value) {
        return new int[] {value >> 8 & 255, value & 255};
    }

    private static int[] s4(int... values) {
        int[] all = new int[4 * values.length];
        for (int i = 0; i < all.length; i++) {
            all[i] = values[i / 4] >> 24 - 8 * (i % 4) & 255;
        }
        return all;
    }

    private static int[] op(int opcode, int[]... operands) {
        return join(new int[] {opcode}, join(operands));
    }

    private static final int[] RETURN = {177};

    private static ClassGate gateOf(Maker maker, int maxLocals, int[]... code) {
        maker.methods.clear();
        maker.coded("m", maxLocals, join(code));
        return check.kept("code", maker);
    }

    /** A method of one instruction, which is at place 0, and a return behind it. */
    private static void one(String what, Maker maker, int maxLocals, boolean isRight, int[]... code) {
        ClassGate gate = gateOf(maker, maxLocals, join(code), RETURN);
        check.due(what, gate.cut(0), isRight ? 2 : -2);
        check.due(what + ": first", gate.instruction(0, 0, 1), isRight ? 0 : -1);
        check.due(what + ": second", gate.instruction(0, 1, 1), isRight ? join(code).length : -1);
        check.due(what + ": third", gate.instruction(0, 2, 0), -1);
    }

    private static void told(String what, Maker maker, int[] code, int... due) {
        ClassGate gate = gateOf(maker, 65535, code, RETURN);
        for (int i = 0; i < due.length; i++) {
            check.due(what + " what " + i, gate.instruction(0, 0, i), due[i]);
        }
    }

    private static void everyOpcode() {
        for (int opcode = 0; opcode < 256; opcode++) {
            boolean isPlain = opcode <= 15 || opcode >= 26 && opcode <= 53 || opcode >= 59 && opcode <= 131
                    || opcode >= 133 && opcode <= 152 || opcode >= 172 && opcode <= 177
                    || opcode == 190 || opcode == 191 || opcode == 194 || opcode == 195;
            Maker maker = new Maker(61);
            maker.coded("m", 5, opcode);
            check.due("opcode " + opcode, check.kept("opcode", maker).cut(0), isPlain ? 1 : -2);
            if (isPlain && !(opcode >= 26 && opcode <= 45 || opcode >= 59 && opcode <= 78)) {
                told("opcode " + opcode, new Maker(61), new int[] {opcode}, opcode, 0, 0, 0, 0);
            }
        }
    }

    private static void plainOperands() {
        Maker maker = new Maker(61);
        told("bipush", maker, op(16, new int[] {128}), 16, 0, -128, 0, 0);
        told("bipush", maker, op(16, new int[] {127}), 16, 0, 127, 0, 0);
        told("sipush", maker, op(17, s2(-32768)), 17, 0, -32768, 0, 0);
        told("sipush", maker, op(17, s2(255)), 17, 0, 255, 0, 0);
        for (int kind = 0; kind < 256; kind++) {
            one("newarray " + kind, maker, 0, kind >= 4 && kind <= 11, op(188, new int[] {kind}));
        }
        told("newarray", maker, op(188, new int[] {11}), 188, 0, 11, 0, 0);
        for (int[] cut : new int[][] {{16}, {17}, {17, 1}, {18}, {21}, {132}, {132, 0}, {153}, {167, 0}, {178, 0}, {185, 0, 1, 1},
            {186, 0, 1, 0}, {188}, {196}, {196, 21}, {196, 21, 0}, {196, 132, 0, 0, 0}, {197, 0, 1}, {200, 0, 0, 0}, {170}, {171}}) {
            Maker short1 = new Maker(61);
            short1.coded("m", 9, join(new int[] {0}, cut));
            check.due("beyond the code " + cut[0], check.kept("cut", short1).cut(0), -3);
        }
    }

    private static void localsAndTheirForms() {
        Maker maker = new Maker(49);
        for (int i = 0; i < 5; i++) {
            for (int local = 0; local < 4; local++) {
                told("short load", maker, new int[] {26 + 4 * i + local}, 21 + i, 0, local, 0, 0);
                told("short store", maker, new int[] {59 + 4 * i + local}, 54 + i, 0, local, 0, 0);
            }
            told("load", maker, op(21 + i, new int[] {200}), 21 + i, 0, 200, 0, 0);
            told("store", maker, op(54 + i, new int[] {200}), 54 + i, 0, 200, 0, 0);
            told("wide load", maker, op(196, op(21 + i, s2(60000))), 21 + i, 0, 60000, 0, 0);
            told("wide store", maker, op(196, op(54 + i, s2(60000))), 54 + i, 0, 60000, 0, 0);
        }
        told("iinc", maker, op(132, new int[] {255, 254}), 132, 0, 255, -2, 0);
        told("wide iinc", maker, op(196, op(132, s2(40000), s2(-30000))), 132, 0, 40000, -30000, 0);
        told("ret", maker, op(169, new int[] {9}), 169, 0, 9, 0, 0);
        told("wide ret", maker, op(196, op(169, s2(900))), 169, 0, 900, 0, 0);
    }

    private static void localsTooGreat() {
        Maker maker = new Maker(50);
        for (int i = 0; i < 5; i++) {
            int places = i == 1 || i == 3 ? 2 : 1;
            for (int locals = 0; locals <= 5; locals++) {
                for (int local = 0; local < 4; local++) {
                    boolean isRight = local + places <= locals;
                    one("short load", maker, locals, isRight, new int[] {26 + 4 * i + local});
                    one("short store", maker, locals, isRight, new int[] {59 + 4 * i + local});
                    one("load", maker, locals, isRight, op(21 + i, new int[] {local}));
                    one("store", maker, locals, isRight, op(54 + i, new int[] {local}));
                    one("wide load", maker, locals, isRight, op(196, op(21 + i, s2(local))));
                    one("wide store", maker, locals, isRight, op(196, op(54 + i, s2(local))));
                    one("iinc", maker, locals, local < locals, op(132, new int[] {local, 1}));
                    one("wide iinc", maker, locals, local < locals, op(196, op(132, s2(local), s2(1))));
                    one("ret", maker, locals, local < locals, op(169, new int[] {local}));
                    one("wide ret", maker, locals, local < locals, op(196, op(169, s2(local))));
                }
            }
        }
        one("last local", maker, 65535, true, op(196, op(21, s2(65534))));
        one("none behind it", maker, 65535, false, op(196, op(21, s2(65535))));
        one("no two places", maker, 65535, false, op(196, op(22, s2(65534))));
    }

    private static void subroutines() {
        for (int major = 49; major <= 52; major++) {
            Maker maker = new Maker(major);
            one("jsr in " + major, maker, 1, major < 51, op(168, s2(3)));
            one("jsr_w in " + major, maker, 1, major < 51, op(201, s4(5)));
            one("ret in " + major, maker, 1, major < 51, op(169, new int[] {0}));
            one("wide ret in " + major, maker, 1, major < 51, op(196, op(169, s2(0))));
        }
        told("jsr", new Maker(50), op(168, s2(3)), 168, 0, 1, 0, 0);
        told("jsr_w", new Maker(50), op(201, s4(5)), 168, 0, 1, 0, 0);
    }

    private static void jumps() {
        Maker maker = new Maker(61);
        int[] all = {153, 154, 155, 156, 157, 158, 159, 160, 161, 162, 163, 164, 165, 166, 167, 198, 199};
        for (int opcode : all) {
            told("jump on " + opcode, maker, op(opcode, s2(3)), opcode, 0, 1, 0, 0);
            told("jump in place " + opcode, maker, op(opcode, s2(0)), opcode, 0, 0, 0, 0);
            for (int target : new int[] {-1, 1, 2, 4, 32767, -32768}) {
                one("jump to " + target, maker, 0, false, op(opcode, s2(target)));
            }
        }
        ClassGate back = gateOf(maker, 0, new int[] {0, 3}, op(154, s2(-1)), op(167, s2(-5)));
        check.due("jumps back", back.cut(0), 4);
        check.due("to the second", back.instruction(0, 2, 2), 1);
        check.due("to the first", back.instruction(0, 3, 2), 0);
        check.due("no second operand", back.instruction(0, 3, 3), 0);
    }

    private static void longJumps() {
        Maker maker = new Maker(61);
        told("goto_w", maker, op(200, s4(5)), 167, 0, 1, 0, 0);
        for (int target : new int[] {-1, 1, 6, GREATEST, LOWEST}) {
            one("goto_w to " + target, maker, 0, false, op(200, s4(target)));
        }
        ClassGate gate = gateOf(maker, 0, new int[] {0}, op(200, s4(GREATEST)));
        check.due("beyond all numbers", gate.cut(0), -3);
    }

    private static int[] table(int pads, int pad, int normal, int low, int high, int... targets) {
        int[] filling = new int[pads];
        Arrays.fill(filling, pad);
        return join(new int[] {170}, filling, s4(normal, low, high), s4(targets));
    }

    private static int[] lookup(int pads, int pad, int normal, int pairs, int... keysAndTargets) {
        int[] filling = new int[pads];
        Arrays.fill(filling, pad);
        return join(new int[] {171}, filling, s4(normal, pairs), s4(keysAndTargets));
    }

    private static void tableSwitches() {
        for (int before = 0; before < 8; before++) {
            Maker maker = new Maker(61);
            int pads = 3 - before % 4;
            int size = 1 + pads + 12 + 12;
            int[] code = table(pads, 0, size, -1, 1, 0, -before, size + 1);
            ClassGate gate = gateOf(maker, 0, new int[before], code, new int[] {0, 177});
            check.due("tableswitch", gate.cut(0), before + 3);
            int[] due = {170, before, -1, 1, 4};
            for (int what = 0; what < 5; what++) {
                check.due("tableswitch what " + what, gate.instruction(0, before, what), due[what]);
            }
            switchIsTold(gate, before, 0, -1, 0, 1);
            switchIsRefused(maker, before, pads, code);
        }
        Maker maker = new Maker(61);
        wholeCode(maker, table(3, 0, 0, 0, 1, 0, 0));
        ClassGate back = gateOf(maker, 0, RETURN, table(2, 0, -1, 3, 3, -1));
        check.due("a default before the switch", back.jump(0, 1, 0, false), 0);
        check.due("nothing behind the last instruction", back.jump(0, 2, 0, false), -1);
        ClassGate alone = gateOf(maker, 0, table(3, 0, 0, 3, 3, 0));
        check.due("nor behind the only one", alone.jump(0, 1, 0, true), -1);
        check.due("of which nothing else is told", alone.instruction(0, 1, 0), -1);
        one("one key", maker, 0, true, table(3, 0, 20, 7, 7, 20));
        one("low above high", maker, 0, false, table(3, 0, 20, 8, 7, 20));
        one("all keys", maker, 0, false, table(3, 0, 20, LOWEST, GREATEST, 20));
        one("too many keys", maker, 0, false, table(3, 0, 20, 0, 1 << 30, 20));
        one("far too many keys", maker, 0, false, table(3, 0, 20, 0, 0x3FFFFFFF, 20));
        one("lowest above greatest", maker, 0, false, table(3, 0, 20, GREATEST, LOWEST, 20));
        one("greatest keys", maker, 0, true, table(3, 0, 0, GREATEST - 1, GREATEST, 24, 0));
        one("the default's target", maker, 0, false, table(3, 0, 1, 7, 7, 20));
        one("a target", maker, 0, false, table(3, 0, 20, 7, 8, 24, 25));
        one("a low target", maker, 0, false, table(3, 0, 20, 7, 8, 24, -1));
        ClassGate greatest = gateOf(maker, 0, table(3, 0, 0, GREATEST - 1, GREATEST, 24, 0), RETURN);
        check.due("greatest key", greatest.jump(0, 0, 2, true), GREATEST);
    }

    /** A switch of three keys that jumps behind itself, to itself, to the code's begin, and to the end. */
    private static void switchIsTold(ClassGate gate, int k, int... keys) {
        int[] targets = {k + 1, k, 0, k + 2};
        for (int i = 0; i < 4; i++) {
            check.due("place " + i, gate.jump(0, k, i, false), targets[i]);
            check.due("key " + i, gate.jump(0, k, i, true), keys[i]);
        }
        noPlaces(gate, k, 4);
    }

    /** With a pad that is not 0, and with fewer bytes than it has. */
    private static void switchIsRefused(Maker maker, int before, int pads, int[] code) {
        for (int pad = 1; pad <= pads; pad++) {
            int[] wrong = code.clone();
            wrong[pad] = pad;
            check.due("pad " + pad, gateOf(maker, 0, new int[before], wrong, new int[] {0, 177}).cut(0), -2 - before);
        }
        for (int length = 1; length < code.length; length++) {
            int[] cut = Arrays.copyOf(code, length);
            check.due("cut to " + length, gateOf(maker, 0, new int[before], cut).cut(0), -2 - before);
        }
    }

    /** The code ends with an instruction all of whose bytes may be 0: with fewer of them it goes beyond the end. */
    private static void wholeCode(Maker maker, int[] code) {
        check.due("at the end of the code", gateOf(maker, 1, code).cut(0), 1);
        for (int length = 1; length < code.length; length++) {
            check.due("cut to " + length, gateOf(maker, 1, Arrays.copyOf(code, length)).cut(0), -2);
        }
    }

    private static void noPlaces(ClassGate gate, int k, int count) {
        for (int none : new int[] {-1, count, LOWEST, GREATEST}) {
            check.due("no place " + none, gate.jump(0, k, none, false), -1);
            check.due("no key " + none, gate.jump(0, k, none, true), -1);
            check.due("no method " + none, gate.jump(none, k, 0, true), -1);
        }
        check.due("no instruction", gate.jump(0, -1, 0, true), -1);
        check.due("no instruction", gate.jump(0, GREATEST, 0, true), -1);
        check.due("no switch", gate.jump(0, k + 1, 0, true), -1);
    }

    private static void lookupSwitches() {
        for (int before = 0; before < 8; before++) {
            Maker maker = new Maker(61);
            int pads = 3 - before % 4;
            int size = 1 + pads + 8 + 24;
            int[] code = lookup(pads, 0, size, 3, LOWEST, 0, -5, -before, GREATEST, size + 1);
            ClassGate gate = gateOf(maker, 0, new int[before], code, new int[] {0, 177});
            check.due("lookupswitch", gate.cut(0), before + 3);
            int[] due = {171, before, 3, 0, 4};
            for (int what = 0; what < 5; what++) {
                check.due("lookupswitch what " + what, gate.instruction(0, before, what), due[what]);
            }
            switchIsTold(gate, before, 0, LOWEST, -5, GREATEST);
            switchIsRefused(maker, before, pads, code);
        }
        Maker maker = new Maker(61);
        wholeCode(maker, lookup(3, 0, 0, 0));
        wholeCode(maker, lookup(3, 0, 0, 1, 0, 0));
        one("no pairs", maker, 0, true, lookup(3, 0, 12, 0));
        one("pairs below 0", maker, 0, false, lookup(3, 0, 12, -1));
        one("lowest pairs", maker, 0, false, lookup(3, 0, 12, LOWEST));
        one("too many pairs", maker, 0, false, lookup(3, 0, 12, GREATEST));
        one("pairs that wrap round", maker, 0, false, lookup(3, 0, 12, 0x20000000));
        one("the same key", maker, 0, false, lookup(3, 0, 0, 2, 5, 0, 5, 0));
        one("falling keys", maker, 0, false, lookup(3, 0, 0, 2, 5, 0, 4, 0));
        one("keys that fall later", maker, 0, false, lookup(3, 0, 0, 3, 4, 0, 5, 0, -5, 0));
        one("rising keys", maker, 0, true, lookup(3, 0, 0, 2, -1, 0, 0, 0));
        one("the default's target", maker, 0, false, lookup(3, 0, 1, 1, 5, 0));
        one("a target", maker, 0, false, lookup(3, 0, 0, 2, 5, 0, 6, 27));
    }

    private static void wide() {
        Maker maker = new Maker(50);
        for (int opcode = 0; opcode < 256; opcode++) {
            boolean isRight = opcode >= 21 && opcode <= 25 || opcode >= 54 && opcode <= 58 || opcode == 169;
            if (opcode == 132) {
                one("wide iinc", maker, 9, true, op(196, op(132, s2(0), s2(0))));
            } else if (isRight) {
                one("wide " + opcode, maker, 9, true, op(196, op(opcode, s2(0))));
            } else {
                ClassGate gate = gateOf(maker, 9, new int[] {0}, op(196, op(opcode, s2(0), s2(0))), RETURN);
                check.due("wide " + opcode, gate.cut(0), -3);
            }
        }
        wholeCode(maker, op(196, op(21, s2(0))));
        wholeCode(maker, op(196, op(132, s2(0), s2(0))));
        wholeCode(maker, op(132, s2(0)));
        wholeCode(maker, op(167, s2(0)));
        wholeCode(maker, op(200, s4(0)));
        ClassGate gate = gateOf(maker, 9, op(167, s2(3)), op(196, op(21, s2(1))), RETURN);
        check.due("to the wide itself", gate.instruction(0, 0, 2), 1);
        gate = gateOf(maker, 9, op(167, s2(4)), op(196, op(21, s2(1))), RETURN);
        check.due("to what it widens", gate.cut(0), -2);
    }

    private static void constants() {
        int[] ldcFrom = {99, 99, 99, 45, 45, 99, 99, 49, 45, 99, 99, 99, 99, 99, 99, 51, 51, 55, 99, 99, 99};
        for (int major : new int[] {45, 48, 49, 50, 51, 54, 55, 61}) {
            Maker maker = new Maker(major);
            int[] entries = new int[21];
            entries[1] = 1;
            entries[3] = maker.number(1);
            entries[4] = maker.floating(1);
            entries[5] = maker.wide(5, 1);
            entries[6] = maker.wide(6, 1);
            entries[7] = 2;
            entries[8] = maker.string("s");
            entries[9] = maker.ref(9, "B", "f", "I");
            entries[10] = maker.ref(10, "B", "m", "()V");
            entries[11] = maker.ref(11, "B", "m", "()V");
            entries[12] = maker.pair("f", "I");
            if (major >= 51) {
                entries[15] = maker.handle(5, entries[10]);
                entries[16] = maker.methodType("()V");
                entries[18] = maker.dynamic(18, 0, "m", "()V");
                maker.attributes.add(maker.attribute("BootstrapMethods", Maker.u2(1, entries[15], 0)));
            }
            if (major >= 55) {
                entries[17] = maker.dynamic(17, 0, "f", "[J");
                one("ldc2_w of a dynamic long", maker, 0, true, op(20, s2(maker.dynamic(17, 0, "f", "J"))));
                one("ldc_w of a dynamic long", maker, 0, false, op(19, s2(maker.dynamic(17, 0, "f", "J"))));
                one("ldc of a dynamic double", maker, 0, false, op(18, new int[] {maker.dynamic(17, 0, "f", "D")}));
                one("ldc2_w of a dynamic double", maker, 0, true, op(20, s2(maker.dynamic(17, 0, "f", "D"))));
            }
            for (int tag = 0; tag < entries.length; tag++) {
                if (tag == 0 || entries[tag] != 0) {
                    String what = "tag " + tag + " in " + major;
                    one("ldc " + what, maker, 0, major >= ldcFrom[tag], op(18, new int[] {entries[tag]}));
                    one("ldc_w " + what, maker, 0, major >= ldcFrom[tag], op(19, s2(entries[tag])));
                    one("ldc2_w " + what, maker, 0, tag == 5 || tag == 6, op(20, s2(entries[tag])));
                }
            }
            one("ldc2_w of a second place", maker, 0, false, op(20, s2(entries[5] + 1)));
            told("ldc", maker, op(18, new int[] {entries[3]}), 18, 0, entries[3], 0, 0);
            told("ldc_w", maker, op(19, s2(entries[3])), 18, 0, entries[3], 0, 0);
            told("ldc2_w", maker, op(20, s2(entries[5])), 20, 0, entries[5], 0, 0);
        }
    }

    private static void fieldsAndMethods() {
        for (int major = 51; major <= 52; major++) {
            Maker maker = new Maker(major);
            int field = maker.ref(9, "B", "f", "I");
            int method = maker.ref(10, "B", "m", "()V");
            int init = maker.ref(10, "B", "<init>", "()V");
            int ofInterface = maker.ref(11, "B", "m", "()V");
            for (int index : new int[] {0, 1, 2, field, method, init, ofInterface, maker.pair("f", "I"), 500, 65535}) {
                for (int opcode = 178; opcode <= 184; opcode++) {
                    boolean isRight = opcode <= 181 ? index == field
                            : index == method
                            || index == init && opcode == 183
                            || index == ofInterface && opcode >= 183 && major >= 52;
                    one("opcode " + opcode + " of " + index, maker, 0, isRight, op(opcode, s2(index)));
                }
            }
            for (int opcode = 178; opcode <= 184; opcode++) {
                int index = opcode <= 181 ? field : method;
                told("opcode " + opcode, maker, op(opcode, s2(index)), opcode, 0, index, 0, 0);
            }
        }
    }

    private static void interfaceCalls() {
        Maker maker = new Maker(45);
        int none = maker.ref(11, "B", "m", "()V");
        int some = maker.ref(11, "B", "m", "(IJ[D)V");
        int most = maker.ref(11, "B", "m", "(" + "J".repeat(127) + ")V");
        int all = maker.ref(11, "B", "m", "(" + "I".repeat(255) + ")V");
        int method = maker.ref(10, "B", "m", "()V");
        for (int count = 0; count < 256; count++) {
            one("no argument " + count, maker, 0, count == 1, op(185, s2(none), new int[] {count, 0}));
            one("arguments " + count, maker, 0, count == 5, op(185, s2(some), new int[] {count, 0}));
            one("most arguments " + count, maker, 0, count == 255, op(185, s2(most), new int[] {count, 0}));
            one("too many arguments " + count, maker, 0, false, op(185, s2(all), new int[] {count, 0}));
        }
        one("no zero", maker, 0, false, op(185, s2(none), new int[] {1, 1}));
        for (int index : new int[] {0, 1, 2, method, 65535}) {
            one("of " + index, maker, 0, false, op(185, s2(index), new int[] {1, 0}));
        }
        told("invokeinterface", maker, op(185, s2(some), new int[] {5, 0}), 185, 0, some, 5, 0);
    }

    private static void dynamicCalls() {
        Maker maker = new Maker(55);
        int handle = maker.handle(6, maker.ref(10, "B", "m", "()V"));
        int call = maker.dynamic(18, 0, "m", "()V");
        int constant = maker.dynamic(17, 0, "f", "I");
        maker.attributes.add(maker.attribute("BootstrapMethods", Maker.u2(1, handle, 0)));
        one("invokedynamic", maker, 0, true, op(186, s2(call), s2(0)));
        one("first zero", maker, 0, false, op(186, s2(call), s2(256)));
        one("second zero", maker, 0, false, op(186, s2(call), s2(1)));
        for (int index : new int[] {0, constant, handle, maker.ref(10, "B", "m", "()V"), 65535}) {
            one("of " + index, maker, 0, false, op(186, s2(index), s2(0)));
        }
        told("invokedynamic", maker, op(186, s2(call), s2(0)), 186, 0, call, 0, 0);
    }

    private static void classes() {
        Maker maker = new Maker(61);
        int plain = maker.type("B");
        int array = maker.type("[B");
        int deepest = maker.type("[".repeat(255) + "B");
        int almost = maker.type("[".repeat(254) + "LB;");
        for (int index : new int[] {0, 1, plain, array, deepest, almost, maker.string("B"), 65535}) {
            boolean isClass = index == plain || index == array || index == deepest || index == almost;
            one("new " + index, maker, 0, index == plain, op(187, s2(index)));
            one("anewarray " + index, maker, 0, isClass && index != deepest, op(189, s2(index)));
            one("checkcast " + index, maker, 0, isClass, op(192, s2(index)));
            one("instanceof " + index, maker, 0, isClass, op(193, s2(index)));
        }
        for (int opcode : new int[] {187, 189, 192, 193}) {
            told("opcode " + opcode, maker, op(opcode, s2(plain)), opcode, 0, plain, 0, 0);
        }
    }

    private static void arrays() {
        Maker maker = new Maker(61);
        int[] types = {maker.type("B"), maker.type("[I"), maker.type("[[[LB;"), maker.type("[".repeat(255) + "J")};
        int[] dimensions = {0, 1, 3, 255};
        for (int i = 0; i < types.length; i++) {
            for (int count = 0; count < 256; count++) {
                one("multianewarray " + count, maker, 0, count >= 1 && count <= dimensions[i],
                        op(197, s2(types[i]), new int[] {count}));
            }
        }
        one("of a text", maker, 0, false, op(197, s2(maker.text("[[I")), new int[] {1}));
        told("multianewarray", maker, op(197, s2(types[2]), new int[] {2}), 197, 0, types[2], 2, 0);
    }

    private static void whatIsWrongFirst() {
        Maker maker = new Maker(61);
        check.due("operands before targets", gateOf(maker, 0, op(167, s2(100)), new int[] {0, 202}).cut(0), -6);
        check.due("the first target", gateOf(maker, 0, new int[] {0}, op(167, s2(1)), op(167, s2(1)), RETURN).cut(0), -3);
        check.due("the first operands", gateOf(maker, 0, new int[] {0, 0, 188, 3, 188, 2}).cut(0), -4);
        ClassGate gate = gateOf(maker, 0, new int[] {0, 177, 255});
        check.due("wrong code", gate.cut(0), -4);
        check.due("asked again", gate.cut(0), -4);
        for (int what = 0; what < 5; what++) {
            check.due("of wrong code", gate.instruction(0, 0, what), -1);
        }
        check.due("no jump of wrong code", gate.jump(0, 0, 0, false), -1);
    }

    private static void severalMethods() {
        Maker maker = new Maker(61);
        maker.method(257, "none", "()V");
        maker.coded("one", 0, 177);
        maker.coded("two", 0, 3, 87, 177);
        maker.coded("three", 0, 202);
        ClassGate gate = check.kept("methods", maker);
        for (int round = 0; round < 2; round++) {
            check.due("no code", gate.cut(0), -1);
            check.due("one", gate.cut(1), 1);
            check.due("two", gate.cut(2), 3);
            check.due("three", gate.cut(3), -2);
            check.due("no code", gate.instruction(0, 0, 0), -1);
            check.due("of one", gate.instruction(1, 0, 0), 177);
            check.due("of two", gate.instruction(2, 1, 0), 87);
            check.due("of three", gate.instruction(3, 0, 0), -1);
        }
        for (int none : new int[] {-1, 4, LOWEST, GREATEST}) {
            check.due("no method", gate.cut(none), -1);
            check.due("no method", gate.instruction(none, 0, 0), -1);
            check.due("no instruction", gate.instruction(2, none, 0), -1);
            check.due("no method", gate.jump(none, 0, 0, true), -1);
        }
    }
}
