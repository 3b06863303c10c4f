/** Promise 5: setWaves. */
public final class Promise05Test {
    public static void main(String[] args) {
        Tests.of(Promise05Test.class);
    }

    /** What the WAVES give at the first PHASES, with a CUTOFF of 128 and a DAMPING of 256: twice the BAND. */
    private static int bandOfFirst(int instrument, int one, int other, int mix) {
        Melodeon m = new Melodeon();
        m.draw(0, 400);
        m.setWaves(instrument, one, other, 0, mix);
        m.begin(instrument, 0, 127);
        m.sample();
        return m.ofVoice(0, 8);
    }

    /** "if there is no such INSTRUMENT": 0 to 3 are, and each has its own */
    static void theFirstAndTheLastInstrument(Due due) {
        Melodeon m = new Melodeon();
        for (int i = 0; i < 4; i++) {
            due.same("setWaves of " + i, m.setWaves(i, i, 3 - i, i, 10 + i), 0);
        }
        for (int i = 0; i < 4; i++) {
            due.same("MIX before of " + i, m.setWaves(i, 0, 0, 0, 0), 10 + i);
            due.same("the square for " + i, bandOfFirst(i, 1, 0, 0), 500);
        }
    }

    /** "Throws IndexOutOfBoundsException if there is no such INSTRUMENT" */
    static void thereIsNoInstrumentBeyond(Due due) {
        for (int instrument : Twins.outside(0, 3)) {
            Twins.noPlace(due, "setWaves(" + instrument + ", 2, 0, 9, 11)", m -> m.setWaves(instrument, 2, 0, 9, 11));
        }
    }

    /** "its first WAVE from now on": 0 to 3 */
    static void theFirstWaveMayBeEach(Due due) {
        int[] bands = {-496, 500, -500, 200};
        for (int wave = 0; wave < 4; wave++) {
            due.same("the WAVE " + wave + " as the first", bandOfFirst(0, wave, 3 - wave, 0), bands[wave]);
        }
    }

    /** "its second WAVE": 0 to 3 */
    static void theSecondWaveMayBeEach(Due due) {
        int[] bands = {-496, 500, -500, 200};
        for (int wave = 0; wave < 4; wave++) {
            due.same("the WAVE " + wave + " as the second", bandOfFirst(0, 3 - wave, wave, 100), bands[wave]);
        }
    }

    /** "Throws IndexOutOfBoundsException if there is no such ... WAVE", the first one */
    static void thereIsNoFirstWaveBeyond(Due due) {
        for (int one : Twins.outside(0, 3)) {
            Twins.noPlace(due, "setWaves(0, " + one + ", 0, 9, 11)", m -> m.setWaves(0, one, 0, 9, 11));
        }
    }

    /** "Throws IndexOutOfBoundsException if there is no such ... WAVE", the second one */
    static void thereIsNoSecondWaveBeyond(Due due) {
        for (int other : Twins.outside(0, 3)) {
            Twins.noPlace(due, "setWaves(0, 2, " + other + ", 9, 11)", m -> m.setWaves(0, 2, other, 9, 11));
        }
    }

    /** "if detune is not -64 to 64": -64 and 64 are DETUNES */
    static void theLeastAndTheGreatestDetune(Due due) {
        for (int detune = -64; detune <= 64; detune += 128) {
            Melodeon m = new Melodeon();
            m.setWaves(0, 0, 0, detune, 0);
            m.begin(0, 0, 127);
            m.run(2);
            due.same("first PHASE", m.ofVoice(0, 5), 512);
            due.same("second PHASE, DETUNE " + detune, m.ofVoice(0, 6), 512 + 2 * detune);
        }
    }

    /** "Throws IllegalArgumentException if detune is not -64 to 64" */
    static void noDetuneIsBeyond(Due due) {
        for (int detune : Twins.outside(-64, 64)) {
            Twins.noArgument(due, "setWaves(0, 2, 0, " + detune + ", 11)", m -> m.setWaves(0, 2, 0, detune, 11));
        }
    }

    /** "mix is not 0 to 100": with 0 the second WAVE is not heard at all, with 100 the first one is not */
    static void theLeastAndTheGreatestMix(Due due) {
        due.same("square with none of the saw", bandOfFirst(0, 1, 0, 0), 500);
        due.same("saw with none of the square", bandOfFirst(0, 1, 0, 100), -496);
        Melodeon m = new Melodeon();
        due.same("MIX at first", m.setWaves(0, 1, 0, 0, 100), 0);
        due.same("MIX before", m.setWaves(0, 1, 0, 0, 0), 100);
        due.same("MIX before", m.setWaves(0, 1, 0, 0, 0), 0);
    }

    /** The MIX next to its ends: 1000 * 99 / 100 - 992 / 100, and the other way round */
    static void theMixNextToItsEnds(Due due) {
        due.same("980.08 of MIX 1", bandOfFirst(0, 1, 0, 1), 490);
        due.same("-972.08 of MIX 99", bandOfFirst(0, 1, 0, 99), -486);
    }

    /** "Throws IllegalArgumentException if ... mix is not 0 to 100" */
    static void noMixIsBeyond(Due due) {
        for (int mix : Twins.outside(0, 100)) {
            Twins.noArgument(due, "setWaves(0, 2, 0, 9, " + mix + ")", m -> m.setWaves(0, 2, 0, 9, mix));
        }
    }

    /** "If several exceptions apply, the one that is named first is thrown": that of the INSTRUMENT, or WAVE */
    static void whatThereIsNotIsNamedFirst(Due due) {
        Twins.noPlace(due, "setWaves(4, 2, 0, 65, 101)", m -> m.setWaves(4, 2, 0, 65, 101));
        Twins.noPlace(due, "setWaves(0, -1, 0, -65, 11)", m -> m.setWaves(0, -1, 0, -65, 11));
        Twins.noPlace(due, "setWaves(0, 2, 4, 65, 11)", m -> m.setWaves(0, 2, 4, 65, 11));
        Twins.noPlace(due, "setWaves(0, 2, 4, 9, -1)", m -> m.setWaves(0, 2, 4, 9, -1));
        Twins.noArgument(due, "setWaves(0, 2, 0, 65, 101)", m -> m.setWaves(0, 2, 0, 65, 101));
    }

    /** "by its INSTRUMENT as it is now": a note that is on has the new WAVES with the next sample, at its PHASES */
    static void itCountsFromTheNextSampleOn(Due due) {
        Melodeon m = new Melodeon();
        m.begin(0, 0, 127);
        m.sample();
        m.setWaves(0, 1, 1, 9, 0);
        due.same("BAND as it was", m.ofVoice(0, 8), -496);
        m.sample();
        due.same("BAND behind 1000 + 248 + 496", m.ofVoice(0, 8), -496 + 872);
        due.same("second PHASE", m.ofVoice(0, 6), 256 + 256 + 9);
    }
}
