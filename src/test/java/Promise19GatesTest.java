/** Promise 19, sample: the GATES of Terms. */
public final class Promise19GatesTest {
    public static void main(String[] args) {
        Tests.of(Promise19GatesTest.class);
    }

    /** A note of the TRACK 0, in its first sample; the TRACKS do not PLAY any more. */
    private static Melodeon note(int gate, int release) {
        Melodeon m = new Melodeon();
        m.setEnvelope(0, 1, 1, 1000, release);
        m.write(0, 0, 9, 10, gate);
        m.play(0);
        m.sample();
        m.stop();
        return m;
    }

    private static void voice(Due due, Melodeon m, int voice, int state, int gate) {
        due.same("state of " + voice + " at the clock " + m.clock(), m.ofVoice(voice, 0), state);
        due.same("GATE of " + voice + " at the clock " + m.clock(), m.ofVoice(voice, 9), gate);
    }

    /** "a GATE (1 to 200 samples)": with 1 it ENDS behind its first sample, ahead of the next one */
    static void theLeastGate(Due due) {
        Melodeon m = note(1, 4);
        voice(due, m, 0, 2, 0);
        due.same("LEVEL", m.ofVoice(0, 1), 1000000);
        m.sample();
        voice(due, m, 0, 4, -1);
        due.same("LEVEL, a step of RELEASE already", m.ofVoice(0, 1), 750000);
    }

    /** "a GATE (1 to 200 samples)": with 200 it sounds for 200 samples */
    static void theGreatestGate(Due due) {
        Melodeon m = note(200, 4);
        voice(due, m, 0, 2, 199);
        m.run(198);
        voice(due, m, 0, 3, 1);
        m.sample();
        voice(due, m, 0, 3, 0);
        m.sample();
        voice(due, m, 0, 4, -1);
    }

    /** "behind these (ahead of the next one) it ENDS": with each sample one is less */
    static void aGateOfThree(Due due) {
        Melodeon m = note(3, 4);
        voice(due, m, 0, 2, 2);
        m.sample();
        voice(due, m, 0, 3, 1);
        m.sample();
        voice(due, m, 0, 3, 0);
        m.sample();
        voice(due, m, 0, 4, -1);
        m.sample();
        voice(due, m, 0, 4, -1);
    }

    /** With a RELEASE of 1 it is FREE, and gives nothing, in the very sample ahead of which it ENDS */
    static void itMayBeFreeAtOnce(Due due) {
        Melodeon m = note(2, 1);
        m.sample();
        voice(due, m, 0, 3, 0);
        int phase = m.ofVoice(0, 5);
        due.same("sample()", m.sample(), 0);
        voice(due, m, 0, 0, -1);
        due.same("PHASE", m.ofVoice(0, 5), phase);
    }

    /** "if its VOICE still has it (a VOICE that has another NOTE has the GATE of that ...)" */
    static void anotherNoteHasItsOwnGate(Due due) {
        Melodeon m = new Melodeon();
        m.setTempo(1, 0);
        for (int step = 0; step < 5; step++) {
            m.write(0, step, step, 100, step == 0 ? 5 : 50);
        }
        m.play(0);
        m.run(5);
        due.same("PITCH of 0", m.ofVoice(0, 3), 4);
        voice(due, m, 0, 1, 49);
        m.run(3);
        voice(due, m, 0, 1, 46);
    }

    /** "... or none)": a NOTE that is begun by hand, on a VOICE whose GATE would be over */
    static void anotherNoteHasNone(Due due) {
        Melodeon m = note(3, 400);
        for (int i = 0; i < 3; i++) {
            m.begin(0, 1, 1);
        }
        due.same("begin", m.begin(0, 1, 1), 0);
        voice(due, m, 0, 1, -1);
        m.run(9);
        voice(due, m, 0, 3, -1);
    }

    /** A GATE of which 0 are left goes with the VOICE too: it would END ahead of the next sample, but does not */
    static void aGateThatIsOverGoesWithTheVoice(Due due) {
        Melodeon m = note(1, 400);
        for (int i = 0; i < 3; i++) {
            m.begin(0, 1, 1);
        }
        voice(due, m, 0, 2, 0);
        due.same("begin", m.begin(0, 1, 1), 0);
        m.run(5);
        voice(due, m, 0, 3, -1);
    }

    /** "notes whose GATE is over END, VOICE by VOICE, ahead of those that BEGIN": so they are taken first */
    static void theyEndAheadOfThoseThatBegin(Due due) {
        Melodeon m = new Melodeon();
        m.setTempo(2, 0);
        for (int i = 0; i < 3; i++) {
            m.begin(0, i, 100);
        }
        m.write(0, 0, 20, 100, 2);
        m.write(0, 1, 21, 100, 9);
        m.play(0);
        m.run(2);
        due.same("now the oldest would be taken", m.nextVoice(), 0);
        m.sample();
        due.same("PITCH of 3", m.ofVoice(3, 3), 21);
        voice(due, m, 3, 1, 8);
        due.same("LEVEL, on from where it was, without a step of RELEASE", m.ofVoice(3, 1), 300000);
        due.same("taken()", m.taken(), 1);
    }

    /** "VOICE by VOICE": several are over at once, with other ones between them that are not */
    static void severalAreOverAtOnce(Due due) {
        Melodeon m = new Melodeon();
        m.write(0, 0, 9, 10, 4);
        m.write(1, 0, 9, 10, 5);
        m.write(2, 0, 9, 10, 4);
        m.play(0);
        m.run(4);
        m.begin(0, 9, 10);
        for (int voice = 0; voice < 4; voice++) {
            due.same("state of " + voice, m.ofVoice(voice, 0), 1);
        }
        m.sample();
        voice(due, m, 0, 4, -1);
        voice(due, m, 1, 1, 0);
        voice(due, m, 2, 4, -1);
        voice(due, m, 3, 1, -1);
        m.sample();
        voice(due, m, 1, 4, -1);
    }

    /** "GATES go on, also if it does not PLAY" and as another STEP is told */
    static void theyGoOnWithoutPlaying(Due due) {
        Melodeon m = note(3, 4);
        due.no("isPlaying()", m.isPlaying());
        m.run(2);
        voice(due, m, 0, 3, 0);
        m.play(5);
        m.sample();
        voice(due, m, 0, 4, -1);
    }

    /** "and of a NOTE that has ENDED": it is over while in RELEASE, and changes nothing there */
    static void theyGoOnInRelease(Due due) {
        Melodeon m = note(3, 10);
        m.end(0);
        voice(due, m, 0, 4, 2);
        m.run(2);
        voice(due, m, 0, 4, 0);
        m.sample();
        voice(due, m, 0, 4, -1);
        due.same("LEVEL, three steps of RELEASE", m.ofVoice(0, 1), 700000);
    }

    /** "or is FREE": it is over there too, and the VOICE stays FREE */
    static void theyGoOnOfAFreeOne(Due due) {
        Melodeon m = note(4, 1);
        m.end(0);
        m.sample();
        voice(due, m, 0, 0, 2);
        m.run(2);
        voice(due, m, 0, 0, 0);
        m.sample();
        voice(due, m, 0, 0, -1);
        due.same("sounding()", m.sounding(), 0);
    }

    /** A STEP shorter than its GATE, and one longer: the NOTE lasts as long as the GATE */
    static void theStepDoesNotEndIt(Due due) {
        Melodeon m = new Melodeon();
        m.setTempo(1, 0);
        m.write(0, 0, 9, 10, 6);
        m.play(0);
        m.run(6);
        voice(due, m, 0, 1, 0);
        m.sample();
        voice(due, m, 0, 4, -1);
        Melodeon slow = new Melodeon();
        slow.setTempo(9, 0);
        slow.write(0, 0, 9, 10, 2);
        slow.play(0);
        slow.run(3);
        voice(due, slow, 0, 4, -1);
        due.same("step()", slow.step(), 0);
    }
}
