/** Promise 19, sample: (c) of Terms, LOW and BAND, and what a VOICE gives. */
public final class Promise19FilterTest {
    private static final int SAMPLES = 150;

    public static void main(String[] args) {
        Tests.of(Promise19FilterTest.class);
    }

    /** Whether LOW, or BAND, came to a limit, and was below it (or above) behind that. */
    private static boolean comesTo(Due due, boolean low, int limit) {
        Melodeon m = new Melodeon();
        m.setWaves(0, 1, 1, 0, 0);
        m.setFilter(0, 128, 16);
        m.begin(0, 33, 127);
        Filter filter = new Filter(128, 16);
        boolean reached = false;
        boolean left = false;
        for (int i = 0; i < SAMPLES; i++) {
            // the square of this pitch rings with the filter
            filter.step(new Melodeon().wave(1, i * 1724 % 65536));
            m.sample();
            int lowShown = m.ofVoice(0, 7);
            int bandShown = m.ofVoice(0, 8);
            due.same("LOW " + i, lowShown, filter.low);
            due.same("BAND " + i, bandShown, filter.band);
            int shown = low ? lowShown : bandShown;
            left = left || reached && shown != limit;
            reached = reached || shown == limit;
        }
        return reached && left;
    }

    /** What Terms say of LOW and BAND, in their words. */
    private static final class Filter {
        private final int cutoff;
        private final int damping;
        private int low;
        private int band;

        Filter(int cutoff, int damping) {
            this.cutoff = cutoff;
            this.damping = damping;
        }

        void step(int o) {
            low = Math.max(-4000, Math.min(4000, low + cutoff * band / 256));
            int h = o - low - damping * band / 256;
            band = Math.max(-4000, Math.min(4000, band + cutoff * h / 256));
        }
    }

    /** "LOW ... kept from -4000 to 4000" */
    static void lowIsKeptAbove(Due due) {
        due.yes("LOW came to 4000, and back", comesTo(due, true, 4000));
    }

    /** "LOW ... kept from -4000 to 4000" */
    static void lowIsKeptBelow(Due due) {
        due.yes("LOW came to -4000, and back", comesTo(due, true, -4000));
    }

    /** "BAND ... kept from -4000 to 4000" */
    static void bandIsKeptAbove(Due due) {
        due.yes("BAND came to 4000, and back", comesTo(due, false, 4000));
    }

    /** "BAND ... kept from -4000 to 4000" */
    static void bandIsKeptBelow(Due due) {
        due.yes("BAND came to -4000, and back", comesTo(due, false, -4000));
    }

    /** "(c) LOW is CUTOFF * BAND / 256 more": with a BAND of 0 at first, nothing is given in the first sample */
    static void theFirstSampleGivesNothing(Due due) {
        for (int value : new int[] {-1000, 1000}) {
            Melodeon m = Sounds.flat(value);
            m.setGain(256);
            m.begin(0, 0, 127);
            due.same("sample()", m.sample(), 0);
            due.same("LOW", m.ofVoice(0, 7), 0);
        }
    }

    private static void filter(Due due, Melodeon m, int low, int band) {
        m.sample();
        due.same("LOW at the clock " + m.clock(), m.ofVoice(0, 7), low);
        due.same("BAND at the clock " + m.clock(), m.ofVoice(0, 8), band);
    }

    /** "/ is cut towards 0", above it and below: halves, and what is less than 1 */
    static void smallNumbersAreCutTowardsZero(Due due) {
        for (int sign = -1; sign <= 1; sign += 2) {
            Melodeon one = Sounds.flat(sign);
            one.begin(0, 0, 127);
            filter(due, one, 0, 0);
            Melodeon three = Sounds.flat(3 * sign);
            three.begin(0, 0, 127);
            filter(due, three, 0, sign);
            filter(due, three, 0, 2 * sign);
            filter(due, three, sign, 2 * sign);
            Melodeon damped = Sounds.flat(10 * sign);
            damped.setFilter(0, 100, 100);
            damped.begin(0, 0, 127);
            filter(due, damped, 0, 3 * sign);
            filter(due, damped, sign, 6 * sign);
        }
    }

    /** What the third sample of a note is whose LOW is 562 there: the GAIN 16 leaves it as it is. */
    private static int third(int value, int attack, int force) {
        Melodeon m = Sounds.flat(value);
        m.setGain(16);
        m.setEnvelope(0, attack, 1, 1000, 1);
        m.begin(0, 0, force);
        return m.run(3);
    }

    /** "LOW * force / 127 * (LEVEL / 1000) / 1000, one after the other from the left": each is cut towards 0 */
    static void whatItGivesIsCutOneAfterTheOther(Due due) {
        for (int sign = -1; sign <= 1; sign += 2) {
            due.same("562 * 64 / 127 = 283.2", third(1000 * sign, 1, 64), 283 * sign);
            due.same("562 * 63 / 127 = 278, not 278.8; * 428 / 1000 = 118.98", third(1000 * sign, 7, 63), 118 * sign);
            due.same("562 * 7, not 7.5, / 1000 = 3.9", third(1000 * sign, 400, 127), 3 * sign);
        }
    }

    /** The least and the greatest force: a 127th, 4.4, and all of it */
    static void theEndsOfForce(Due due) {
        for (int sign = -1; sign <= 1; sign += 2) {
            due.same("562 / 127", third(1000 * sign, 1, 1), 4 * sign);
            due.same("562 * 126 / 127 = 557.6", third(1000 * sign, 1, 126), 557 * sign);
            due.same("562 * 127 / 127", third(1000 * sign, 1, 127), 562 * sign);
        }
    }

    /** "(LEVEL / 1000)": a LEVEL below 1000 is none, one of 1000 is a thousandth */
    static void aLevelBelowAThousandGivesNothing(Due due) {
        Melodeon m = new Melodeon();
        m.setWaves(0, 1, 1, 0, 0);
        m.setFilter(0, 128, 16);
        m.setEnvelope(0, 1, 1, 1000, 3);
        m.setGain(256);
        m.begin(0, 0, 127);
        m.run(5);
        due.yes("LOW is above 1000", m.ofVoice(0, 7) > 1000);
        m.end(0);
        m.run(2);
        due.same("the LEVEL 1 gives nothing", m.sample(), 0);
        due.same("LEVEL", m.ofVoice(0, 1), 1);
        due.yes("though LOW is not 0", m.ofVoice(0, 7) != 0);
        Melodeon least = new Melodeon();
        least.setWaves(0, 1, 1, 0, 0);
        least.setFilter(0, 128, 16);
        least.setEnvelope(0, 1, 1, 1, 3);
        least.setGain(16);
        least.begin(0, 0, 127);
        least.run(5);
        due.same("LEVEL", least.ofVoice(0, 1), 1000);
        due.same("a thousandth of LOW", least.heard(0), least.ofVoice(0, 7) / 1000);
        due.same("which is", least.heard(0), 1);
    }
}
