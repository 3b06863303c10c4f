/** Promise 19, sample: (b) of Terms, the WAVES at their PHASES. */
public final class Promise19PhaseTest {
    public static void main(String[] args) {
        Tests.of(Promise19PhaseTest.class);
    }

    private static void phases(Due due, Melodeon m, int samples, int first, int second) {
        for (int left = samples; left > 0; left -= Math.min(left, 200)) {
            m.run(Math.min(left, 200));
        }
        due.same("first PHASE at the clock " + m.clock(), m.ofVoice(0, 5), first);
        due.same("second PHASE at the clock " + m.clock(), m.ofVoice(0, 6), second);
    }

    /** "both taken by 65536": 65536 to the dot is 0 */
    static void sixtyFiveThousandFiveHundredAndThirtySixIsZero(Due due) {
        Melodeon m = new Melodeon();
        m.begin(0, 36, 127);
        phases(due, m, 31, 63488, 63488);
        phases(due, m, 1, 0, 0);
        phases(due, m, 1, 2048, 2048);
    }

    /** "from 0 to 65535": 65535 stays, and 255 more are 254 */
    static void theGreatestPhaseStays(Due due) {
        Melodeon m = new Melodeon();
        m.setWaves(0, 0, 0, -1, 0);
        m.begin(0, 0, 127);
        phases(due, m, 257, 65792 - 65536, 65535);
        phases(due, m, 1, 512, 254);
    }

    /** The first PHASE wraps around, and the second one on its own, one sample earlier or later */
    static void eachWrapsAroundOnItsOwn(Due due) {
        Melodeon up = new Melodeon();
        up.setWaves(0, 0, 0, 64, 0);
        up.begin(0, 47, 127);
        phases(due, up, 16, 16 * 3864, 16 * 3928);
        phases(due, up, 1, 17 * 3864 - 65536, 17 * 3928 - 65536);
        Melodeon down = new Melodeon();
        down.setWaves(0, 0, 0, -64, 0);
        down.begin(0, 0, 127);
        phases(due, down, 256, 0, 256 * 192);
        phases(due, down, 85, 85 * 256, 341 * 192);
        phases(due, down, 1, 86 * 256, 342 * 192 - 65536);
    }

    /** The greatest way that a PHASE goes at once: 3864 and 64 and 64 more */
    static void theGreatestStep(Due due) {
        Melodeon m = new Melodeon();
        m.setWaves(0, 0, 0, 64, 0);
        m.setVibrato(0, 64, 8);
        m.run(4);
        m.begin(0, 47, 127);
        phases(due, m, 1, 3928, 3992);
    }

    /** The least way, 256 - 64 - 64: it never goes back, so no PHASE comes from below 0 */
    static void theLeastStep(Due due) {
        Melodeon m = new Melodeon();
        m.setWaves(0, 0, 0, -64, 0);
        m.setVibrato(0, 64, 8);
        m.begin(0, 0, 127);
        phases(due, m, 1, 192, 128);
    }

    /** "x is the first WAVE at the first PHASE", ahead of its going on: the first sample has the PHASE 0 */
    static void theFirstSampleHasThePhaseZero(Due due) {
        Melodeon m = new Melodeon();
        m.draw(0, 800);
        m.draw(1, -800);
        m.setWaves(0, 3, 3, 0, 0);
        m.begin(0, 36, 127);
        m.sample();
        due.same("BAND behind 800", m.ofVoice(0, 8), 400);
        m.sample();
        due.same("BAND behind -800 - 200 - 400", m.ofVoice(0, 8), 400 - 700);
    }

    /** Behind the wrap-around the WAVE begins again, and just ahead of it goes to its VALUE 0 */
    static void theWaveBeginsAgain(Due due) {
        Melodeon m = new Melodeon();
        m.draw(0, 1000);
        m.setWaves(0, 3, 3, 0, 0);
        m.setFilter(0, 128, 256);
        m.begin(0, 24, 127);
        m.run(63);
        due.same("PHASE", m.ofVoice(0, 5), 63 * 1024);
        int low = m.ofVoice(0, 7);
        int band = m.ofVoice(0, 8);
        for (int o : new int[] {500, 1000, 500, 0}) {
            low += band / 2;
            band += (o - low - band) / 2;
            m.sample();
            due.same("LOW at the clock " + m.clock(), m.ofVoice(0, 7), low);
            due.same("BAND at the clock " + m.clock(), m.ofVoice(0, 8), band);
        }
    }

    /** "the PHASE (CLOCK % PERIOD) * 65536 / PERIOD": by the CLOCK, not by the age of the NOTE */
    static void theVibratoGoesByTheClock(Due due) {
        Melodeon m = new Melodeon();
        m.run(200);
        m.run(57);
        m.setVibrato(0, 64, 10);
        m.begin(0, 0, 127);
        int phase = 0;
        // the TRIANGLE is 201, -199, -599 and -1000 at 7, 8, 9 and 0 tenths
        for (int v : new int[] {12, -12, -38, -64}) {
            phase += 256 + v;
            phases(due, m, 1, phase, phase);
        }
    }

    /** "o = (x * (100 - MIX) + y * MIX) / 100": cut towards 0, above it and below */
    static void theMixIsCutTowardsZero(Due due) {
        Melodeon m = new Melodeon();
        m.setWaves(0, 1, 3, 0, 1);
        m.draw(0, -997);
        m.begin(0, 0, 127);
        m.sample();
        due.same("980.03: BAND", m.ofVoice(0, 8), 490);
        Melodeon small = new Melodeon();
        small.setWaves(0, 0, 1, 0, 49);
        small.begin(0, 0, 127);
        small.sample();
        due.same("-15.92, cut to -15: BAND", small.ofVoice(0, 8), -7);
        Melodeon above = new Melodeon();
        above.draw(0, 3);
        above.setWaves(0, 3, 3, 0, 50);
        above.begin(0, 0, 127);
        above.sample();
        due.same("3 and 3 are 3: BAND", above.ofVoice(0, 8), 1);
    }
}
