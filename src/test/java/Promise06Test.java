/** Promise 6: setEnvelope. What the LEVEL does on its way is in Promise19LevelTest. */
public final class Promise06Test {
    public static void main(String[] args) {
        Tests.of(Promise06Test.class);
    }

    private static Melodeon note(int attack, int decay, int sustain, int release) {
        Melodeon m = new Melodeon();
        m.setEnvelope(0, attack, decay, sustain, release);
        m.begin(0, 0, 127);
        return m;
    }

    private static void level(Due due, Melodeon m, int samples, int state, int level) {
        m.run(samples);
        due.same("state at the clock " + m.clock(), m.ofVoice(0, 0), state);
        due.same("level at the clock " + m.clock(), m.ofVoice(0, 1), level);
    }

    /** "if there is no such INSTRUMENT": 0 to 3 are, and each has its own */
    static void theFirstAndTheLastInstrument(Due due) {
        Melodeon m = new Melodeon();
        for (int i = 0; i < 4; i++) {
            due.same("setEnvelope of " + i, m.setEnvelope(i, 1 + i, 1, 500 + i, 1), 1000);
        }
        for (int i = 0; i < 4; i++) {
            m.begin(i, 0, 127);
        }
        m.sample();
        int[] levels = {1000000, 500000, 333333, 250000};
        for (int i = 0; i < 4; i++) {
            due.same("LEVEL of " + i, m.ofVoice(i, 1), levels[i]);
            due.same("SUSTAIN before of " + i, m.setEnvelope(i, 1, 1, 0, 1), 500 + i);
        }
    }

    /** "Throws IndexOutOfBoundsException if there is no such INSTRUMENT" */
    static void thereIsNoInstrumentBeyond(Due due) {
        for (int i : Twins.outside(0, 3)) {
            Twins.noPlace(due, "setEnvelope(" + i + ", 50, 60, 70, 80)", m -> m.setEnvelope(i, 50, 60, 70, 80));
        }
    }

    /** "if attack ... is not 1 to 400": with 1 the first sample is at the top */
    static void theLeastAttack(Due due) {
        level(due, note(1, 10, 1000, 10), 1, 2, 1000000);
    }

    /** "if attack ... is not 1 to 400": with 400 it is the four hundredth sample */
    static void theGreatestAttack(Due due) {
        Melodeon m = note(400, 10, 1000, 10);
        level(due, m, 1, 1, 2500);
        m.run(198);
        level(due, m, 200, 1, 997500);
        level(due, m, 1, 2, 1000000);
    }

    /** "Throws IllegalArgumentException if attack ... is not 1 to 400" */
    static void noAttackIsBeyond(Due due) {
        for (int attack : Twins.outside(1, 400)) {
            Twins.noArgument(due, "setEnvelope(0, " + attack + ", 60, 70, 80)",
                m -> m.setEnvelope(0, attack, 60, 70, 80));
        }
    }

    /** "if ... decay ... is not 1 to 400": with 1 it falls all the way at once */
    static void theLeastDecay(Due due) {
        Melodeon m = note(1, 1, 0, 10);
        level(due, m, 1, 2, 1000000);
        level(due, m, 1, 3, 0);
    }

    /** "if ... decay ... is not 1 to 400": with 400 it is 2501 less each time */
    static void theGreatestDecay(Due due) {
        Melodeon m = note(1, 400, 0, 10);
        m.run(200);
        level(due, m, 200, 2, 1000000 - 399 * 2501);
        level(due, m, 1, 3, 0);
    }

    /** "Throws IllegalArgumentException if ... decay ... is not 1 to 400" */
    static void noDecayIsBeyond(Due due) {
        for (int decay : Twins.outside(1, 400)) {
            Twins.noArgument(due, "setEnvelope(0, 50, " + decay + ", 70, 80)",
                m -> m.setEnvelope(0, 50, decay, 70, 80));
        }
    }

    /** "if ... release is not 1 to 400": with 1 it is FREE at once */
    static void theLeastRelease(Due due) {
        Melodeon m = note(1, 1, 1000, 1);
        m.run(2);
        m.end(0);
        level(due, m, 1, 0, 0);
    }

    /** "if ... release is not 1 to 400": with 400 it is the four hundredth sample */
    static void theGreatestRelease(Due due) {
        Melodeon m = note(1, 1, 1000, 400);
        m.run(2);
        m.end(0);
        m.run(199);
        level(due, m, 200, 4, 2500);
        level(due, m, 1, 0, 0);
    }

    /** "Throws IllegalArgumentException if ... release is not 1 to 400" */
    static void noReleaseIsBeyond(Due due) {
        for (int release : Twins.outside(1, 400)) {
            Twins.noArgument(due, "setEnvelope(0, 50, 60, 70, " + release + ")",
                m -> m.setEnvelope(0, 50, 60, 70, release));
        }
    }

    /** "sustain is not 0 to 1000": at 0 the VOICE is not FREE */
    static void theLeastSustain(Due due) {
        Melodeon m = note(1, 1, 0, 10);
        level(due, m, 9, 3, 0);
        due.same("SUSTAIN before", m.setEnvelope(0, 1, 1, 5, 1), 0);
    }

    /** "sustain is not 0 to 1000": at 1000 it does not fall at all, however slow the DECAY */
    static void theGreatestSustain(Due due) {
        Melodeon m = note(1, 400, 1000, 10);
        level(due, m, 1, 2, 1000000);
        level(due, m, 1, 3, 1000000);
        due.same("SUSTAIN before", m.setEnvelope(0, 1, 1, 5, 1), 1000);
    }

    /** "Throws IllegalArgumentException if ... sustain is not 0 to 1000" */
    static void noSustainIsBeyond(Due due) {
        for (int sustain : Twins.outside(0, 1000)) {
            Twins.noArgument(due, "setEnvelope(0, 50, 60, " + sustain + ", 80)",
                m -> m.setEnvelope(0, 50, 60, sustain, 80));
        }
    }

    /** "If several exceptions apply, the one that is named first is thrown": that of the INSTRUMENT */
    static void theInstrumentIsNamedFirst(Due due) {
        Twins.noPlace(due, "setEnvelope(4, 0, 60, 70, 80)", m -> m.setEnvelope(4, 0, 60, 70, 80));
        Twins.noPlace(due, "setEnvelope(-1, 50, 401, 70, 80)", m -> m.setEnvelope(-1, 50, 401, 70, 80));
        Twins.noPlace(due, "setEnvelope(4, 50, 60, 1001, 80)", m -> m.setEnvelope(4, 50, 60, 1001, 80));
        Twins.noPlace(due, "setEnvelope(-1, 50, 60, 70, 0)", m -> m.setEnvelope(-1, 50, 60, 70, 0));
        Twins.noArgument(due, "setEnvelope(0, 0, 401, -1, 0)", m -> m.setEnvelope(0, 0, 401, -1, 0));
    }

    /** "by its INSTRUMENT as it is now": a note that is on goes on by the new ones with the next sample */
    static void itCountsFromTheNextSampleOn(Due due) {
        Melodeon m = note(10, 10, 1000, 10);
        level(due, m, 1, 1, 100000);
        m.setEnvelope(0, 400, 10, 1000, 10);
        due.same("LEVEL as it was", m.ofVoice(0, 1), 100000);
        level(due, m, 1, 1, 102500);
        m.setEnvelope(0, 1, 2, 500, 10);
        level(due, m, 1, 2, 1000000);
        level(due, m, 1, 2, 749999);
        m.setEnvelope(0, 1, 1, 500, 10);
        level(due, m, 1, 3, 500000);
        m.end(0);
        m.setEnvelope(0, 1, 1, 500, 4);
        level(due, m, 1, 4, 250000);
    }
}
