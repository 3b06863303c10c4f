/** Promise 28: ofVoice. */
public final class Promise28Test {
    public static void main(String[] args) {
        Tests.of(Promise28Test.class);
    }

    private static void facts(Due due, Melodeon m, int voice, int... facts) {
        for (int what = 0; what < facts.length; what++) {
            due.same("ofVoice(" + voice + ", " + what + ") at the clock " + m.clock(), m.ofVoice(voice, what),
                facts[what]);
        }
    }

    /** "0 each at first, but -1 for 9", of each VOICE */
    static void atFirst(Due due) {
        Melodeon m = new Melodeon();
        for (int voice = 0; voice < 4; voice++) {
            facts(due, m, voice, 0, 0, 0, 0, 0, 0, 0, 0, 0, -1);
        }
    }

    /** "if there is no such VOICE": 0 and 3 are, and each has its own */
    static void theFirstAndTheLastVoice(Due due) {
        Melodeon m = new Melodeon();
        for (int voice = 0; voice < 4; voice++) {
            m.begin(3 - voice, 10 + voice, 20 + voice);
        }
        for (int voice = 0; voice < 4; voice++) {
            facts(due, m, voice, 1, 0, 3 - voice, 10 + voice, 20 + voice, 0, 0, 0, 0, -1);
        }
    }

    /** "Throws IndexOutOfBoundsException if there is no such VOICE", for the first and the last of what is asked */
    static void thereIsNoVoiceBeyond(Due due) {
        for (int voice : Twins.outside(0, 3)) {
            Twins.noPlace(due, "ofVoice(" + voice + ", 0)", m -> m.ofVoice(voice, 0));
            Twins.noPlace(due, "ofVoice(" + voice + ", 9)", m -> m.ofVoice(voice, 9));
        }
    }

    /** "if what is not 0 to 9": each of them is something else */
    static void eachThatMayBeAsked(Due due) {
        Melodeon m = new Melodeon();
        m.setWaves(2, 1, 0, 9, 0);
        m.setEnvelope(2, 4, 4, 500, 4);
        m.write(0, 0, 13, 99, 50);
        m.setTrack(0, 2);
        m.play(0);
        m.run(2);
        facts(due, m, 0, 1, 500000, 2, 13, 99, 1084, 1102, 250, 625, 48);
    }

    /** "Throws IllegalArgumentException if what is not 0 to 9", of the first VOICE and of the last */
    static void thereIsNothingElse(Due due) {
        for (int what : Twins.outside(0, 9)) {
            Twins.noArgument(due, "ofVoice(0, " + what + ")", m -> m.ofVoice(0, what));
            Twins.noArgument(due, "ofVoice(3, " + what + ")", m -> m.ofVoice(3, what));
        }
    }

    /** "If several exceptions apply, the one that is named first is thrown": that of the VOICE */
    static void theVoiceIsNamedFirst(Due due) {
        Twins.noPlace(due, "ofVoice(4, 10)", m -> m.ofVoice(4, 10));
        Twins.noPlace(due, "ofVoice(-1, -1)", m -> m.ofVoice(-1, -1));
    }

    /** "-1 without a GATE": of a note that is begun by hand, however long it lasts */
    static void withoutAGate(Due due) {
        Melodeon m = new Melodeon();
        m.begin(0, 1, 1);
        due.same("ofVoice(0, 9)", m.ofVoice(0, 9), -1);
        m.run(200);
        due.same("ofVoice(0, 9)", m.ofVoice(0, 9), -1);
        m.end(0);
        due.same("ofVoice(0, 9)", m.ofVoice(0, 9), -1);
    }

    /** "how many samples of its GATE are left (0 if it ENDS by it ahead of the next one; -1 ... behind that)" */
    static void aGateThatGoesOn(Due due) {
        Melodeon m = new Melodeon();
        m.write(0, 0, 5, 6, 3);
        m.play(0);
        int[] left = {-1, 2, 1, 0, -1, -1};
        int[] states = {0, 1, 1, 1, 4, 4};
        for (int i = 0; i < left.length; i++) {
            due.same("ofVoice(0, 9) at the clock " + i, m.ofVoice(0, 9), left[i]);
            due.same("ofVoice(0, 0) at the clock " + i, m.ofVoice(0, 0), states[i]);
            m.sample();
        }
    }

    /** The greatest GATE, behind its first sample, and the least */
    static void theEndsOfTheGate(Due due) {
        Melodeon m = new Melodeon();
        m.write(0, 0, 5, 6, 200);
        m.write(1, 0, 5, 6, 1);
        m.play(0);
        m.sample();
        due.same("ofVoice(0, 9)", m.ofVoice(0, 9), 199);
        due.same("ofVoice(1, 9)", m.ofVoice(1, 9), 0);
    }

    /** "also of a FREE one (as it was left ...)": LEVEL 0, and all else of its last NOTE */
    static void aFreeOneAsItWasLeft(Due due) {
        Melodeon m = Sounds.flat(1000);
        m.setWaves(0, 3, 3, 5, 0);
        m.begin(0, 12, 77);
        m.run(3);
        m.end(0);
        m.run(9);
        facts(due, m, 0, 0, 0, 0, 12, 77, 1536, 1551, 562, 532, -1);
        m.begin(2, 0, 1);
        m.hush();
        facts(due, m, 0, 0, 0, 2, 0, 1, 0, 0, 0, 0, -1);
    }

    /** "but its GATE goes on": of a FREE one, down to 0, and to -1 */
    static void theGateOfAFreeOneGoesOn(Due due) {
        Melodeon m = new Melodeon();
        m.setEnvelope(0, 1, 1, 1000, 1);
        m.write(0, 0, 5, 6, 5);
        m.play(0);
        m.sample();
        m.stop();
        m.end(0);
        int[] left = {3, 2, 1, 0, -1, -1};
        for (int one : left) {
            m.sample();
            due.same("ofVoice(0, 0) at the clock " + m.clock(), m.ofVoice(0, 0), 0);
            due.same("ofVoice(0, 9) at the clock " + m.clock(), m.ofVoice(0, 9), one);
        }
    }

    /** It only tells: nothing is changed. */
    static void nothingIsChanged(Due due) {
        for (int what = 0; what < 10; what++) {
            int asked = what;
            Twins.unchanged(due, "ofVoice(2, " + what + ")", m -> m.ofVoice(2, asked));
        }
    }
}
