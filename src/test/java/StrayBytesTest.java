import java.util.Random;

/** Whatever bytes come and whatever is asked, only what the document names is thrown. */
public final class StrayBytesTest {
    private static final Check check = new Check();
    private static final int[] ODD = {Integer.MIN_VALUE, -1, 0, 1, 2, 5, 255, 65535, 65536, Integer.MAX_VALUE};

    public static void main(String[] args) {
        byte[] whole = sample();
        // A fixed seed: each run is the same.
        Random random = new Random(17);
        int kept = 0;
        for (int round = 0; round < 20000; round++) {
            byte[] bytes = whole.clone();
            int changes = 1 + random.nextInt(3);
            for (int i = 0; i < changes; i++) {
                bytes[8 + random.nextInt(bytes.length - 8)] = (byte) (random.nextInt(3) == 0 ? random.nextInt(256) : random.nextInt(24));
            }
            kept += ask(bytes);
        }
        for (int round = 0; round < 2000; round++) {
            byte[] bytes = new byte[random.nextInt(400)];
            random.nextBytes(bytes);
            System.arraycopy(whole, 0, bytes, 0, Math.min(bytes.length, 10 + random.nextInt(100)));
            ask(bytes);
        }
        check.due("some are kept, and some are not", kept > 1000 && kept < 19000 ? 1 : 0, 1);
        check.end();
    }

    private static byte[] sample() {
        Maker maker = new Maker(61);
        int handle = maker.handle(6, maker.ref(10, "B", "m", "()V"));
        maker.attributes.add(maker.attribute("BootstrapMethods", Maker.u2(2, handle, 1, maker.dynamic(17, 1, "d", "J"), handle, 0)));
        maker.attributes.add(maker.attribute("Record", Maker.u2(1, maker.text("d"), maker.text("J"), 1), Maker.written(maker.attribute("Odd"))));
        maker.attributes.add(maker.attribute("InnerClasses", Maker.u2(1, 2, 4, 1, 0)));
        maker.attributes.add(maker.attribute("NestMembers", Maker.u2(1, 2)));
        maker.attributes.add(maker.attribute("PermittedSubclasses", Maker.u2(1, 2)));
        maker.field(25, "f", "J").with(maker.attribute("ConstantValue", Maker.u2(maker.wide(5, 77))));
        maker.coded("t", 3, 0, 170, 0, 0, 0, 0, 0, 27, 0, 0, 0, 1, 0, 0, 0, 2, 0, 0, 0, 27, 0, 0, 0, 27, 0, 177);
        maker.coded("l", 3, 171, 0, 0, 0, 0, 0, 0, 28, 0, 0, 0, 2, 0, 0, 0, 1, 0, 0, 0, 28, 0, 0, 0, 2, 0, 0, 0, 28, 177);
        maker.coded("w", 3, 196, 132, 0, 1, 0, 1, 20, 0, maker.dynamic(17, 1, "d", "J"), 88, 167, 0, 3, 177);
        maker.method(1, "m", "(J)V").with(maker.code(1, 3, Maker.u1(0, 0, 177), Maker.u2(0, 1, 1, 2)), maker.attribute("Exceptions", Maker.u2(1, 2)));
        check.kept("the sample", maker);
        return maker.bytes();
    }

    private static int ask(byte[] bytes) {
        ClassGate gate = new ClassGate();
        Check.bring(gate, bytes);
        int rule = gate.read();
        boolean isPlace = rule == 0 ? gate.place() == -1 : gate.place() >= 0 && gate.place() <= bytes.length;
        check.due("a rule of the document", rule >= 0 && rule <= 43 && rule != 39 && isPlace ? 1 : 0, 1);
        for (int what = 0; what <= 15; what++) {
            gate.count(what);
        }
        for (int k = -1; k <= gate.count(0) + 1; k++) {
            gate.entry(k, 0);
            gate.entry(k, 1);
            gate.entry(k, 2);
            gate.bits(k);
            gate.character(k, 0);
            gate.places(k);
            gate.find(true, k, k + 1);
        }
        for (int m = -1; m <= gate.count(2); m++) {
            askMember(gate, m);
        }
        for (int odd : ODD) {
            gate.bootstrap(odd, 0);
            gate.bootstrap(0, odd);
            gate.cut(odd);
            gate.row(0, odd, 0);
            gate.character(odd, odd);
        }
        return rule == 0 ? 1 : 0;
    }

    private static void askMember(ClassGate gate, int m) {
        for (int what = 0; what < 10; what++) {
            gate.member(true, m, what);
            gate.member(false, m, what);
        }
        gate.row(m, 0, 0);
        int number = gate.cut(m);
        for (int k = -1; k <= number; k++) {
            for (int what = 0; what < 5; what++) {
                gate.instruction(m, k, what);
            }
            for (int i = -1; i <= gate.instruction(m, k, 4); i++) {
                gate.jump(m, k, i, true);
                gate.jump(m, k, i, false);
            }
        }
    }
}
