/** Promise 9: setGain. */
public final class Promise09Test {
    public static void main(String[] args) {
        Tests.of(Promise09Test.class);
    }

    /** The third sample of a note whose LOW is 562 there, or -562. */
    private static int third(int value, int gain) {
        Melodeon m = Sounds.flat(value);
        m.setGain(gain);
        m.begin(0, 0, 127);
        return m.run(3);
    }

    /** "if gain is not 0 to 256": with 0 nothing is heard, though a VOICE sounds */
    static void theLeastGain(Due due) {
        due.same("gain 0", third(1000, 0), 0);
        due.same("gain 0, below 0", third(-1000, 0), 0);
        Melodeon m = new Melodeon();
        due.same("GAIN at first", m.setGain(0), 64);
        due.same("GAIN before", m.setGain(1), 0);
    }

    /** "if gain is not 0 to 256": with 256 it is 16 times as much */
    static void theGreatestGain(Due due) {
        due.same("gain 256", third(1000, 256), 562 * 16);
        due.same("gain 256, below 0", third(-1000, 256), -562 * 16);
        Melodeon m = new Melodeon();
        m.setGain(256);
        due.same("GAIN before", m.setGain(1), 256);
    }

    /** "Throws IllegalArgumentException if gain is not 0 to 256" */
    static void noGainIsBeyond(Due due) {
        for (int gain : Twins.outside(0, 256)) {
            Twins.noArgument(due, "setGain(" + gain + ")", m -> m.setGain(gain));
        }
    }

    /** "times GAIN ..., / 16", "/ is cut towards 0": above 0, and below it */
    static void whatIsHeardIsCutTowardsZero(Due due) {
        due.same("562 / 16 = 35.1", third(1000, 1), 35);
        due.same("-562 / 16 = -35.1", third(-1000, 1), -35);
        due.same("562 * 15 / 16 = 526.9", third(1000, 15), 526);
        due.same("-562 * 15 / 16 = -526.9", third(-1000, 15), -526);
        due.same("16 is as much as it is", third(1000, 16), 562);
    }

    /** "GAIN from now on": what is in the DELAY has the GAIN that it had */
    static void itCountsFromTheNextSampleOn(Due due) {
        Melodeon m = Sounds.flat(1000);
        m.setDelay(1, 256, 0);
        m.begin(0, 0, 127);
        due.same("1000 with the gain 64", m.run(2), 1000);
        m.setGain(0);
        due.same("1000 from the delay", m.sample(), 1000);
        due.same("then nothing", m.sample(), 0);
    }
}
