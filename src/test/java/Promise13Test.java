/** Promise 13: hush. */
public final class Promise13Test {
    public static void main(String[] args) {
        Tests.of(Promise13Test.class);
    }

    /** "Returns how many were not": from none to all four */
    static void fromNoneToAll(Due due) {
        for (int many = 0; many <= 4; many++) {
            Melodeon m = new Melodeon();
            for (int i = 0; i < many; i++) {
                m.begin(0, i, 100);
            }
            due.same("hush() of " + many, m.hush(), many);
            due.same("sounding()", m.sounding(), 0);
            due.same("hush() again", m.hush(), 0);
        }
    }

    /** "Makes all VOICES FREE at once": whatever their state */
    static void eachStateIsFreeThen(Due due) {
        Melodeon m = new Melodeon();
        m.setEnvelope(0, 10, 10, 500, 10);
        m.begin(0, 0, 100);
        m.run(20);
        m.begin(0, 1, 100);
        m.begin(0, 2, 100);
        m.run(12);
        m.begin(0, 3, 100);
        m.run(3);
        m.end(2);
        int[] states = {3, 2, 4, 1};
        for (int voice = 0; voice < 4; voice++) {
            due.same("state of " + voice, m.ofVoice(voice, 0), states[voice]);
        }
        due.same("hush()", m.hush(), 4);
        for (int voice = 0; voice < 4; voice++) {
            due.same("state of " + voice, m.ofVoice(voice, 0), 0);
            due.same("LEVEL of " + voice, m.ofVoice(voice, 1), 0);
            due.same("PITCH of " + voice, m.ofVoice(voice, 3), voice);
        }
        due.same("taken()", m.taken(), 0);
    }

    /** "with the LEVEL 0": the next NOTE of the VOICE begins from there */
    static void theLevelIsZero(Due due) {
        Melodeon m = new Melodeon();
        m.begin(0, 0, 100);
        m.run(30);
        m.hush();
        due.same("begin", m.begin(0, 0, 100), 0);
        due.same("LEVEL", m.ofVoice(0, 1), 0);
        m.sample();
        due.same("LEVEL", m.ofVoice(0, 1), 100000);
        due.same("taken()", m.taken(), 0);
    }

    /** "and without GATES": all of them, so that none ends a NOTE that comes behind */
    static void thereAreNoGates(Due due) {
        Melodeon m = new Melodeon();
        for (int track = 0; track < 3; track++) {
            m.write(track, 0, 5, 66, 10 + track);
        }
        m.play(0);
        m.sample();
        m.stop();
        for (int voice = 0; voice < 3; voice++) {
            due.same("GATE of " + voice, m.ofVoice(voice, 9), 9 + voice);
        }
        m.hush();
        for (int voice = 0; voice < 4; voice++) {
            due.same("GATE of " + voice, m.ofVoice(voice, 9), -1);
            m.begin(0, 1, 1);
        }
        m.run(30);
        for (int voice = 0; voice < 4; voice++) {
            due.same("state of " + voice, m.ofVoice(voice, 0), 3);
        }
    }

    /** "Makes all VOICES ... without GATES": also one that is FREE already, which does not count */
    static void aFreeOneLosesItsGateToo(Due due) {
        Melodeon m = new Melodeon();
        m.setEnvelope(0, 1, 1, 1, 1);
        m.write(0, 0, 5, 66, 50);
        m.play(0);
        m.sample();
        m.end(0);
        m.sample();
        due.same("GATE of the FREE one", m.ofVoice(0, 9), 48);
        due.same("hush()", m.hush(), 0);
        due.same("GATE", m.ofVoice(0, 9), -1);
    }

    /** A GATE of which 0 samples are left is gone as well. */
    static void aGateThatIsOverIsGone(Due due) {
        Melodeon m = new Melodeon();
        m.write(0, 0, 5, 66, 1);
        m.play(0);
        m.sample();
        m.stop();
        due.same("GATE", m.ofVoice(0, 9), 0);
        m.hush();
        due.same("GATE", m.ofVoice(0, 9), -1);
        m.begin(0, 1, 1);
        m.run(20);
        due.same("state", m.ofVoice(0, 0), 3);
    }

    /** "as it was left", of ofVoice(): hush() leaves the NOTE, the PHASES, LOW and BAND of each as they were */
    static void theRestIsLeft(Due due) {
        Melodeon m = Sounds.flat(1000);
        m.setWaves(0, 3, 3, 5, 0);
        m.begin(0, 12, 77);
        m.run(3);
        due.same("hush()", m.hush(), 1);
        int[] left = {0, 0, 0, 12, 77, 1536, 1551, 562, 532, -1};
        for (int what = 0; what < left.length; what++) {
            due.same("ofVoice(0, " + what + ")", m.ofVoice(0, what), left[what]);
        }
    }

    /** It makes VOICES FREE, and nothing else: TRACKS play on, and what is in the DELAY comes. */
    static void allElseGoesOn(Due due) {
        Melodeon m = Sounds.flat(1000);
        m.setDelay(2, 256, 0);
        m.setTempo(4, 0);
        m.write(0, 1, 5, 66, 9);
        m.begin(0, 0, 127);
        m.play(0);
        m.run(3);
        due.same("hush()", m.hush(), 1);
        due.same("1000 from the delay", m.sample(), 1000);
        due.same("2248 from the delay, and 0", m.sample(), 2248);
        due.same("the NOTE of the next STEP", m.ofVoice(0, 3), 5);
        due.same("the clock", m.clock(), 5);
    }
}
