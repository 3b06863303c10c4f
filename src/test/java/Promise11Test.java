/** Promise 11: begin; and the VOICE that a NOTE takes. */
public final class Promise11Test {
    public static void main(String[] args) {
        Tests.of(Promise11Test.class);
    }

    private static void facts(Due due, Melodeon m, int voice, int... facts) {
        for (int what = 0; what < facts.length; what++) {
            due.same("ofVoice(" + voice + ", " + what + ")", m.ofVoice(voice, what), facts[what]);
        }
    }

    /** Four notes, on the VOICES by their numbers. */
    private static Melodeon full() {
        Melodeon m = new Melodeon();
        for (int voice = 0; voice < 4; voice++) {
            m.begin(0, voice, 100);
        }
        return m;
    }

    /** "if there is no such INSTRUMENT": 0 and 3 are */
    static void theFirstAndTheLastInstrument(Due due) {
        Melodeon m = new Melodeon();
        due.same("begin(0, 5, 6)", m.begin(0, 5, 6), 0);
        due.same("begin(3, 5, 6)", m.begin(3, 5, 6), 1);
        due.same("INSTRUMENT of the VOICE 0", m.ofVoice(0, 2), 0);
        due.same("INSTRUMENT of the VOICE 1", m.ofVoice(1, 2), 3);
    }

    /** "Throws IndexOutOfBoundsException if there is no such INSTRUMENT" */
    static void thereIsNoInstrumentBeyond(Due due) {
        for (int instrument : Twins.outside(0, 3)) {
            Twins.noPlace(due, "begin(" + instrument + ", 5, 6)", m -> m.begin(instrument, 5, 6));
        }
    }

    /** "if pitch is not 0 to 47": 0 and 47 are PITCHES */
    static void theLeastAndTheGreatestPitch(Due due) {
        Melodeon m = new Melodeon();
        due.same("begin(0, 0, 6)", m.begin(0, 0, 6), 0);
        due.same("begin(0, 47, 6)", m.begin(0, 47, 6), 1);
        m.sample();
        facts(due, m, 0, 1, 100000, 0, 0, 6, 256);
        facts(due, m, 1, 1, 100000, 0, 47, 6, 3864);
    }

    /** "Throws IllegalArgumentException if pitch is not 0 to 47" */
    static void thereIsNoPitchBeyond(Due due) {
        for (int pitch : Twins.outside(0, 47)) {
            Twins.noArgument(due, "begin(0, " + pitch + ", 6)", m -> m.begin(0, pitch, 6));
        }
    }

    /** "force is not 1 to 127": LOW * force / 127 of 562 */
    static void theLeastAndTheGreatestForce(Due due) {
        int[] forces = {1, 127};
        int[] samples = {16, 2248};
        for (int i = 0; i < 2; i++) {
            Melodeon m = Sounds.flat(1000);
            due.same("begin(0, 0, " + forces[i] + ")", m.begin(0, 0, forces[i]), 0);
            due.same("ofVoice(0, 4)", m.ofVoice(0, 4), forces[i]);
            due.same("the third sample", m.run(3), samples[i]);
        }
    }

    /** "Throws IllegalArgumentException if ... force is not 1 to 127" */
    static void noForceIsBeyond(Due due) {
        for (int force : Twins.outside(1, 127)) {
            Twins.noArgument(due, "begin(0, 5, " + force + ")", m -> m.begin(0, 5, force));
        }
    }

    /** "If several exceptions apply, the one that is named first is thrown": that of the INSTRUMENT */
    static void theInstrumentIsNamedFirst(Due due) {
        Twins.noPlace(due, "begin(4, 48, 6)", m -> m.begin(4, 48, 6));
        Twins.noPlace(due, "begin(-1, 5, 0)", m -> m.begin(-1, 5, 0));
        Twins.noArgument(due, "begin(0, 48, 128)", m -> m.begin(0, 48, 128));
    }

    /** "it takes the FREE VOICE with the smallest number" */
    static void ofFreeOnesTheSmallestNumber(Due due) {
        Melodeon m = full();
        m.end(3);
        m.end(1);
        m.sample();
        due.same("1 and 3 are free", m.sounding(), 2);
        due.same("begin", m.begin(0, 9, 9), 1);
        due.same("begin", m.begin(0, 9, 9), 3);
        due.same("taken()", m.taken(), 0);
    }

    /** A FREE one is taken ahead of one in RELEASE, whose number is smaller and whose LEVEL is 0 too */
    static void freeOnesAheadOfReleasedOnes(Due due) {
        Melodeon m = full();
        m.end(2);
        m.end(3);
        m.sample();
        due.same("begin", m.begin(0, 9, 9), 2);
        m.end(2);
        due.same("state of 2", m.ofVoice(2, 0), 4);
        due.same("LEVEL of 2", m.ofVoice(2, 1), 0);
        due.same("state of 3", m.ofVoice(3, 0), 0);
        due.same("begin", m.begin(0, 9, 9), 3);
        due.same("taken()", m.taken(), 0);
        due.same("then the one in RELEASE", m.begin(0, 9, 9), 2);
        due.same("taken()", m.taken(), 1);
    }

    /** "without one, of those in RELEASE the one with the least LEVEL", also if it is the least by 1 alone */
    static void ofReleasedOnesTheLeastLevel(Due due) {
        Melodeon m = new Melodeon();
        m.setEnvelope(0, 1, 1, 1000, 400);
        m.setEnvelope(1, 3, 1, 1000, 400);
        for (int voice = 0; voice < 4; voice++) {
            m.begin(voice % 2, voice, 100);
        }
        m.run(3);
        due.same("LEVEL of 0 and 2", m.ofVoice(0, 1) + m.ofVoice(2, 1), 2000000);
        due.same("LEVEL of 1 and 3", m.ofVoice(1, 1) + m.ofVoice(3, 1), 2 * 999999);
        m.end(2);
        due.same("the only one in RELEASE", m.nextVoice(), 2);
        m.end(3);
        due.same("1 less", m.nextVoice(), 3);
        m.end(0);
        due.same("still 1 less", m.nextVoice(), 3);
        m.end(1);
        for (int voice : new int[] {1, 3, 0, 2}) {
            due.same("begin", m.begin(0, 9, 9), voice);
        }
        due.same("taken()", m.taken(), 4);
    }

    /** "of several the one with the smallest number": of those in RELEASE with the same LEVEL */
    static void ofReleasedOnesOfOneLevelTheSmallestNumber(Due due) {
        Melodeon m = full();
        m.run(5);
        m.end(3);
        m.end(2);
        m.end(1);
        due.same("begin", m.begin(0, 9, 9), 1);
        due.same("begin", m.begin(0, 9, 9), 2);
        due.same("begin", m.begin(0, 9, 9), 3);
        due.same("then the first one", m.begin(0, 9, 9), 0);
    }

    /** One in RELEASE is taken ahead of an older one that is not, whatever its LEVEL */
    static void releasedOnesAheadOfTheOldest(Due due) {
        Melodeon m = new Melodeon();
        m.setEnvelope(1, 1, 1, 0, 10);
        m.begin(1, 0, 100);
        m.begin(1, 1, 100);
        m.begin(1, 2, 100);
        m.begin(0, 3, 100);
        m.run(20);
        m.end(3);
        due.same("LEVEL of 0", m.ofVoice(0, 1), 0);
        due.same("LEVEL of 3", m.ofVoice(3, 1), 1000000);
        due.same("begin", m.begin(0, 9, 9), 3);
    }

    /** "without one, the one whose NOTE began first": in ATTACK, DECAY or SUSTAIN alike */
    static void withoutReleasedOnesTheOldest(Due due) {
        Melodeon m = new Melodeon();
        for (int voice = 0; voice < 4; voice++) {
            m.begin(0, voice, 100);
            m.run(5);
        }
        due.same("states", m.ofVoice(0, 0) * 1000 + m.ofVoice(1, 0) * 100 + m.ofVoice(2, 0) * 10 + m.ofVoice(3, 0),
            3321);
        for (int i = 0; i < 9; i++) {
            due.same("begin", m.begin(0, 9, 9), i % 4);
        }
        due.same("taken()", m.taken(), 9);
    }

    /** "(Notes that begin one behind the other began so, though at one CLOCK.)" */
    static void notesOfOneClockBeganOneBehindTheOther(Due due) {
        Melodeon m = full();
        m.run(3);
        m.end(0);
        m.end(1);
        due.same("begin", m.begin(0, 9, 9), 0);
        due.same("begin", m.begin(0, 9, 9), 1);
        for (int voice : new int[] {2, 3, 0, 1, 2}) {
            due.same("begin", m.begin(0, 9, 9), voice);
        }
    }

    /** "its LEVEL stays as it is (0 of a FREE one)"; "both PHASES 0, LOW and BAND 0"; "BEGINS ... in its ATTACK" */
    static void aFreeVoiceBeginsFromNothing(Due due) {
        Melodeon m = new Melodeon();
        m.setEnvelope(0, 1, 1, 1000, 1);
        m.begin(0, 30, 100);
        m.run(7);
        m.end(0);
        m.sample();
        due.same("it was left with a PHASE", m.ofVoice(0, 5), 7 * 1448);
        due.same("begin(2, 7, 90)", m.begin(2, 7, 90), 0);
        facts(due, m, 0, 1, 0, 2, 7, 90, 0, 0, 0, 0, -1);
    }

    /** "its LEVEL stays as it is": at the top, and on the way; all else begins anew */
    static void aTakenVoiceKeepsItsLevel(Due due) {
        Melodeon m = full();
        m.run(4);
        m.begin(2, 7, 90);
        facts(due, m, 0, 1, 400000, 2, 7, 90, 0, 0, 0, 0, -1);
        m.run(20);
        m.begin(1, 47, 127);
        facts(due, m, 1, 1, 1000000, 1, 47, 127, 0, 0, 0, 0, -1);
        m.sample();
        facts(due, m, 1, 2, 1000000, 1, 47, 127, 3864, 3864, 0, -496, -1);
    }

    /** "BEGINS a NOTE, which has no GATE": also on a VOICE whose GATE is not over, be it FREE or not */
    static void itHasNoGate(Due due) {
        Melodeon m = new Melodeon();
        m.setEnvelope(0, 1, 1, 1000, 1);
        m.write(0, 0, 5, 66, 50);
        m.play(0);
        m.sample();
        m.stop();
        m.end(0);
        m.sample();
        due.same("GATE of the FREE one", m.ofVoice(0, 9), 48);
        due.same("begin", m.begin(0, 9, 9), 0);
        due.same("GATE", m.ofVoice(0, 9), -1);
        m.run(60);
        due.same("it goes on for longer", m.ofVoice(0, 0), 3);
        Melodeon taken = new Melodeon();
        taken.write(0, 0, 5, 66, 50);
        taken.play(0);
        taken.sample();
        taken.stop();
        taken.begin(0, 1, 1);
        taken.begin(0, 2, 1);
        taken.begin(0, 3, 1);
        due.same("begin", taken.begin(0, 9, 9), 0);
        due.same("GATE", taken.ofVoice(0, 9), -1);
        taken.run(60);
        due.same("it goes on for longer", taken.ofVoice(0, 0), 3);
    }

    /** A GATE of which 0 samples are left has not ended its NOTE yet: its VOICE is not in RELEASE now */
    static void aGateThatIsOverHasNotEndedYet(Due due) {
        Melodeon m = new Melodeon();
        m.begin(0, 1, 1);
        m.begin(0, 2, 1);
        m.begin(0, 3, 1);
        m.write(0, 0, 5, 66, 1);
        m.play(0);
        m.sample();
        due.same("GATE of 3", m.ofVoice(3, 9), 0);
        due.same("begin", m.begin(0, 9, 9), 0);
    }
}
