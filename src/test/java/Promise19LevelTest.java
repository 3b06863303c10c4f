/** Promise 19, sample: (a) of Terms, the LEVEL of a VOICE. */
public final class Promise19LevelTest {
    public static void main(String[] args) {
        Tests.of(Promise19LevelTest.class);
    }

    private static Melodeon note(int attack, int decay, int sustain, int release) {
        Melodeon m = new Melodeon();
        m.setEnvelope(0, attack, decay, sustain, release);
        m.begin(0, 0, 127);
        return m;
    }

    private static void level(Due due, Melodeon m, int samples, int state, int level) {
        m.run(samples);
        due.same("state at the clock " + m.clock(), m.ofVoice(0, 0), state);
        due.same("LEVEL at the clock " + m.clock(), m.ofVoice(0, 1), level);
    }

    /** "in ATTACK it is 1000000 / ATTACK more": 333333.3 is cut; 999999 is not 1000000 yet */
    static void attackJustBelowTheTop(Due due) {
        Melodeon m = note(3, 10, 500, 10);
        level(due, m, 1, 1, 333333);
        level(due, m, 1, 1, 666666);
        level(due, m, 1, 1, 999999);
    }

    /** "if it is 1000000 or more then, it is that, and the VOICE is in DECAY": more */
    static void attackBeyondTheTop(Due due) {
        Melodeon m = note(3, 10, 500, 10);
        level(due, m, 4, 2, 1000000);
    }

    /** "if it is 1000000 or more then, it is that, and the VOICE is in DECAY": 1000000 to the dot */
    static void attackToTheTop(Due due) {
        Melodeon m = note(4, 10, 500, 10);
        level(due, m, 3, 1, 750000);
        level(due, m, 1, 2, 1000000);
    }

    /** "the state that it has ... ahead of (a)": the DECAY begins with the sample behind that */
    static void decayBeginsWithTheNextSample(Due due) {
        Melodeon m = note(4, 10, 500, 10);
        m.run(3);
        level(due, m, 1, 2, 1000000);
        level(due, m, 1, 2, 949999);
    }

    /** "it is (1000000 - s) / DECAY + 1 less": 500000 / 3 is 166666.7 */
    static void decayIsOneMoreThanItsPart(Due due) {
        Melodeon m = note(1, 3, 500, 10);
        m.sample();
        level(due, m, 1, 2, 833333);
        level(due, m, 1, 2, 666666);
        level(due, m, 1, 3, 500000);
    }

    /** "if it is s or less then, it is s, and the VOICE is in SUSTAIN": s to the dot, and 25 above it before */
    static void decayToSustainToTheDot(Due due) {
        Melodeon m = note(1, 41, 999, 10);
        m.sample();
        level(due, m, 39, 2, 999025);
        level(due, m, 1, 3, 999000);
    }

    /** "if it is s or less then, it is s": also with s 0, far less */
    static void decayBeyondSustain(Due due) {
        Melodeon m = note(1, 2, 0, 10);
        m.sample();
        level(due, m, 1, 2, 499999);
        level(due, m, 1, 3, 0);
    }

    /** A SUSTAIN of 1 alone: the last LEVEL above s is 1001, 1 above 1000 */
    static void decayJustAboveSustain(Due due) {
        Melodeon m = note(1, 9, 1, 10);
        m.sample();
        level(due, m, 8, 2, 1000000 - 8 * 111001);
        level(due, m, 1, 3, 1000);
        Melodeon near = note(1, 1, 1000, 10);
        near.setEnvelope(0, 1, 200, 999, 10);
        near.sample();
        near.run(166);
        due.same("6 less each time, LEVEL", near.ofVoice(0, 1), 1000000 - 166 * 6);
        due.same("state", near.ofVoice(0, 0), 2);
        near.sample();
        due.same("LEVEL", near.ofVoice(0, 1), 999000);
        due.same("state", near.ofVoice(0, 0), 3);
    }

    /** "In DECAY ... if it is s or less then, it is s": s may be told above the LEVEL meanwhile */
    static void sustainToldAboveTheLevel(Due due) {
        Melodeon m = note(1, 4, 0, 10);
        m.sample();
        level(due, m, 2, 2, 499998);
        m.setEnvelope(0, 1, 4, 900, 10);
        level(due, m, 1, 3, 900000);
    }

    /** "In SUSTAIN it is s": up, down, and to both ends */
    static void sustainFollowsWhatIsTold(Due due) {
        Melodeon m = note(1, 1, 500, 10);
        level(due, m, 3, 3, 500000);
        for (int sustain : new int[] {501, 0, 1000, 1}) {
            m.setEnvelope(0, 1, 1, sustain, 10);
            level(due, m, 1, 3, 1000 * sustain);
        }
    }

    /** At the LEVEL 0 a VOICE in SUSTAIN is not FREE: it sounds, and its PHASE goes on */
    static void sustainAtZeroIsNotFree(Due due) {
        Melodeon m = note(1, 1, 0, 10);
        level(due, m, 200, 3, 0);
        due.same("sounding()", m.sounding(), 1);
        due.same("PHASE", m.ofVoice(0, 5), 200 * 256);
        due.same("nothing is heard", m.heard(0), 0);
    }

    /** "In RELEASE it is 1000000 / RELEASE less; if it is 0 or less then": 0 to the dot */
    static void releaseToZeroToTheDot(Due due) {
        Melodeon m = note(1, 1, 1000, 4);
        m.run(2);
        m.end(0);
        level(due, m, 3, 4, 250000);
        level(due, m, 1, 0, 0);
    }

    /** "if it is 0 or less then, it is 0, and the VOICE is FREE": 1 is not 0 yet, 333333 less is less */
    static void releaseBeyondZero(Due due) {
        Melodeon m = note(1, 1, 1000, 3);
        m.run(2);
        m.end(0);
        level(due, m, 3, 4, 1);
        level(due, m, 1, 0, 0);
    }

    /** "and gives 0 in this sample already, without (b) and (c)": PHASES, LOW and BAND stay */
    static void theSampleInWhichItIsFree(Due due) {
        Melodeon m = Sounds.flat(1000);
        m.setWaves(0, 3, 3, 7, 0);
        m.begin(0, 0, 127);
        m.run(3);
        due.same("heard(0)", m.heard(0), 2248);
        m.end(0);
        due.same("sample()", m.sample(), 0);
        int[] left = {0, 0, 0, 0, 127, 768, 789, 562, 532};
        for (int what = 0; what < left.length; what++) {
            due.same("ofVoice(0, " + what + ")", m.ofVoice(0, what), left[what]);
        }
        m.run(9);
        due.same("and they stay so: PHASE", m.ofVoice(0, 5), 768);
        due.same("LOW", m.ofVoice(0, 7), 562);
    }

    /** From a LEVEL of 0, in RELEASE ahead of the first sample, it is FREE with it */
    static void releaseFromZero(Due due) {
        Melodeon m = note(1, 1, 1000, 400);
        m.end(0);
        level(due, m, 1, 0, 0);
        due.same("PHASE", m.ofVoice(0, 5), 0);
    }

    /** "its LEVEL stays as it is": one taken at the top is in ATTACK for one sample, and not beyond the top */
    static void attackFromTheTop(Due due) {
        Melodeon m = note(10, 10, 1000, 10);
        for (int i = 0; i < 3; i++) {
            m.begin(0, 0, 127);
        }
        m.run(30);
        due.same("begin", m.begin(0, 0, 127), 0);
        due.same("state", m.ofVoice(0, 0), 1);
        level(due, m, 1, 2, 1000000);
    }

    /** Ended in ATTACK it falls from where it is, by parts of 1000000. */
    static void releaseFromTheAttack(Due due) {
        Melodeon m = note(10, 10, 1000, 20);
        level(due, m, 3, 1, 300000);
        m.end(0);
        level(due, m, 5, 4, 50000);
        level(due, m, 1, 0, 0);
    }

    /** Each state goes on by its own, in one sample: none of the four VOICES moves another one's LEVEL. */
    static void eachVoiceHasItsOwn(Due due) {
        Melodeon m = new Melodeon();
        m.setEnvelope(0, 5, 5, 500, 5);
        for (int voice = 0; voice < 4; voice++) {
            m.begin(0, 0, 127);
            m.run(5);
        }
        m.end(0);
        m.sample();
        int[] states = {4, 3, 3, 2};
        int[] levels = {300000, 500000, 500000, 899999};
        for (int voice = 0; voice < 4; voice++) {
            due.same("state of " + voice, m.ofVoice(voice, 0), states[voice]);
            due.same("LEVEL of " + voice, m.ofVoice(voice, 1), levels[voice]);
        }
    }
}
