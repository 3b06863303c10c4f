/** Promise 35: wouldPeak. */
public final class Promise35Test {
    public static void main(String[] args) {
        Tests.of(Promise35Test.class);
    }

    private static Melodeon note(int value, int gain, int notes) {
        Melodeon m = Sounds.flat(value);
        m.setGain(gain);
        for (int i = 0; i < notes; i++) {
            m.begin(0, 0, 127);
        }
        return m;
    }

    /** "if many is not 1 to 200": with 1 it is of the next sample alone */
    static void theLeast(Due due) {
        Melodeon m = note(1000, 64, 1);
        int[] samples = {0, 1000, 2248, 3312};
        for (int sample : samples) {
            due.same("wouldPeak(1) at the clock " + m.clock(), m.wouldPeak(1), sample);
            m.sample();
        }
    }

    /** "if many is not 1 to 200": the greatest is the two hundredth sample, or the one behind it */
    static void theGreatest(Due due) {
        Melodeon m = Sounds.flat(1000);
        m.setDelay(200, 256, 0);
        m.begin(0, 0, 127);
        m.run(2);
        m.hush();
        due.same("1000 is behind 199", m.wouldPeak(199), 0);
        due.same("1000 is the two hundredth", m.wouldPeak(200), 1000);
        m.run(199);
        due.same("sample()", m.sample(), 1000);
    }

    /** "Throws IllegalArgumentException if many is not 1 to 200" */
    static void noOtherMany(Due due) {
        for (int many : Twins.outside(1, 200)) {
            Twins.noArgument(due, "wouldPeak(" + many + ")", m -> m.wouldPeak(many));
            Melodeon m = new Melodeon();
            due.noArgument("wouldPeak(" + many + ") of silence", () -> m.wouldPeak(many));
        }
        Twins.noArgument(due, "wouldPeak(-1)", m -> m.wouldPeak(-1));
    }

    /** "without their signs": the greatest is below 0 */
    static void withoutTheirSigns(Due due) {
        due.same("0, -1000, -2248, -3312", note(-1000, 64, 1).wouldPeak(4), 3312);
        due.same("0, 1000, 2248, 3312", note(1000, 64, 1).wouldPeak(4), 3312);
    }

    /** "the greatest of the SAMPLES ... that would come": not the last one, and none of those that were */
    static void notTheLastOneNorOneThatWas(Due due) {
        Melodeon m = note(1000, 64, 1);
        m.setDelay(1, 256, 0);
        m.run(3);
        m.end(0);
        due.same("2248 of the row, then nothing", m.wouldPeak(9), 2248);
        m.sample();
        due.same("nothing would come", m.wouldPeak(9), 0);
        due.same("peak() has those that were", m.peak(), 3248);
    }

    /** The SAMPLES are what they are as they are CLIPPED: 32767 is the greatest of all */
    static void asTheyWouldBeClipped(Due due) {
        for (int sign = -1; sign <= 1; sign += 2) {
            Melodeon m = note(1000 * sign, 256, 4);
            due.same("wouldPeak(2)", m.wouldPeak(2), 16000);
            due.same("wouldPeak(3)", m.wouldPeak(3), 32767);
            due.same("clipped()", m.clipped(), 0);
        }
    }

    /** Of nothing it is 0. */
    static void ofNothing(Due due) {
        due.same("wouldPeak(1)", new Melodeon().wouldPeak(1), 0);
        due.same("wouldPeak(200)", new Melodeon().wouldPeak(200), 0);
    }

    /** TRACKS and GATES go on in it: a STEP that begins with the next sample, and its end by a GATE */
    static void tracksAndGatesGoOn(Due due) {
        Melodeon m = Sounds.flat(1000);
        m.write(0, 0, 0, 127, 3);
        m.setTempo(2, 0);
        m.play(0);
        due.same("the third sample is its last one", m.wouldPeak(16), 2248);
        m.write(0, 1, 0, 127, 2);
        due.same("both at once: 2248 and 0, then 1000 alone", m.wouldPeak(16), 2248);
        m.write(0, 1, 0, 127, 4);
        due.same("the other one alone has 3312", m.wouldPeak(6), 3312);
    }

    /** "---- what would be (nothing is changed)": and so it is the peak() of as many samples then */
    static void nothingIsChanged(Due due) {
        for (int many : new int[] {1, 2, 17, 199, 200}) {
            Twins.unchanged(due, "wouldPeak(" + many + ")", m -> m.wouldPeak(many));
            Melodeon m = Twins.past();
            int would = m.wouldPeak(many);
            m.reset();
            m.run(many);
            due.same("peak() of " + many, m.peak(), would);
        }
    }
}
