import java.util.function.ToIntFunction;

/** Counts the answers that are not as due, and ends a test by them. */
final class Check {
    private int wrong;
    private int asked;

    void due(String call, long got, long want) {
        asked++;
        if (got != want) {
            wrong++;
            System.out.println(call + " answered " + got + ", due is " + want);
        }
    }

    static int word(byte[] bytes, int at) {
        int word = 0;
        for (int i = at; i < at + 4; i++) {
            word = word << 8 | (i < bytes.length ? bytes[i] & 255 : 0);
        }
        return word;
    }

    static void bring(ClassGate gate, byte[] bytes) {
        for (int at = 0; at < bytes.length; at += 20) {
            gate.feed(word(bytes, at), word(bytes, at + 4), word(bytes, at + 8),
                    word(bytes, at + 12), word(bytes, at + 16));
        }
        gate.end(bytes.length);
    }

    /** Reads a file that must be kept, and answers the gate that has it. */
    ClassGate kept(String what, Maker maker) {
        ClassGate gate = new ClassGate();
        bring(gate, maker.bytes());
        due(what + ": read", gate.read(), 0);
        due(what + ": place", gate.place(), -1);
        return gate;
    }

    /** Reads a file that must be wrong by a rule at a place. */
    void wrong(String what, byte[] bytes, int rule, int place) {
        ClassGate gate = new ClassGate();
        bring(gate, bytes);
        due(what + ": read", gate.read(), rule);
        due(what + ": place", gate.place(), place);
        due(what + ": no class", gate.count(0), -1);
    }

    /** Makes and reads a file that must be wrong by a rule, at a place that is known once it is made. */
    void wrong(String what, Maker maker, int rule, ToIntFunction<Maker> place) {
        byte[] bytes = maker.bytes();
        wrong(what, bytes, rule, place.applyAsInt(maker));
    }

    /** A file on one of both sides of a boundary. */
    void judged(String what, Maker maker, boolean isRight, int rule, ToIntFunction<Maker> place) {
        if (isRight) {
            kept(what, maker);
        } else {
            wrong(what, maker, rule, place);
        }
    }

    /** Whether a call throws what the document names; anything else that it throws ends the test. */
    void refused(String what, Class<? extends RuntimeException> named, Runnable call) {
        RuntimeException thrown = null;
        try {
            call.run();
        } catch (RuntimeException e) {
            thrown = e;
        }
        due(what + ": refused by " + thrown, thrown != null && thrown.getClass() == named ? 1 : 0, 1);
    }

    void end() {
        System.out.println(asked + " answers, " + wrong + " not as due");
        if (asked == 0 || wrong != 0) {
            System.exit(1);
        }
    }
}
