/** Promise 19, sample: the TRACKS of Terms. How long a STEP is, is in Promise16Test. */
public final class Promise19TracksTest {
    public static void main(String[] args) {
        Tests.of(Promise19TracksTest.class);
    }

    private static void pitches(Due due, Melodeon m, int... pitches) {
        for (int voice = 0; voice < pitches.length; voice++) {
            due.same("PITCH of " + voice + " at the clock " + m.clock(), m.ofVoice(voice, 3), pitches[voice]);
        }
    }

    /** "at the beginning of each STEP (ahead of its first sample)": with the first, and with none of the others */
    static void aNoteBeginsOnceInAStep(Due due) {
        Melodeon m = new Melodeon();
        m.setTempo(3, 0);
        m.write(0, 0, 9, 10, 100);
        m.write(0, 1, 11, 12, 100);
        m.play(0);
        due.same("ahead of the first sample", m.sounding(), 0);
        int[] sounding = {1, 1, 1, 2, 2, 2, 2};
        for (int sounds : sounding) {
            m.sample();
            due.same("sounding() at the clock " + m.clock(), m.sounding(), sounds);
        }
    }

    /** "the state that it has behind the TRACKS": it has its first step of ATTACK in the sample it begins with */
    static void itGoesOnInTheSampleItBeginsWith(Due due) {
        Melodeon m = new Melodeon();
        m.write(0, 0, 9, 10, 100);
        m.play(0);
        m.sample();
        due.same("LEVEL", m.ofVoice(0, 1), 100000);
        due.same("PHASE", m.ofVoice(0, 5), 431);
        due.same("BAND", m.ofVoice(0, 8), -496);
    }

    /** "a NOTE BEGINS for each TRACK, by numbers": all three, with the PITCH, the force and the INSTRUMENT of each */
    static void eachTrackByItsNumber(Due due) {
        Melodeon m = new Melodeon();
        for (int track = 0; track < 3; track++) {
            m.write(track, 0, 20 + track, 30 + track, 40 + track);
            m.setTrack(track, 3 - track);
        }
        m.play(0);
        m.sample();
        for (int voice = 0; voice < 3; voice++) {
            due.same("INSTRUMENT", m.ofVoice(voice, 2), 3 - voice);
            due.same("PITCH", m.ofVoice(voice, 3), 20 + voice);
            due.same("force", m.ofVoice(voice, 4), 30 + voice);
            due.same("GATE", m.ofVoice(voice, 9), 39 + voice);
        }
        due.same("sounding()", m.sounding(), 3);
    }

    /** "whose STEP is not empty": none, the first alone, the last alone */
    static void emptyStepsBeginNothing(Due due) {
        Melodeon m = new Melodeon();
        m.setTempo(1, 0);
        m.write(0, 1, 5, 6, 100);
        m.write(2, 2, 7, 8, 100);
        m.play(0);
        int[] sounding = {0, 1, 2, 2, 2, 2, 2, 2};
        for (int sounds : sounding) {
            m.sample();
            due.same("sounding() at the clock " + m.clock(), m.sounding(), sounds);
        }
        pitches(due, m, 5, 7);
    }

    /** Without a FREE VOICE for each, they are taken: the oldest, which may be one of the same STEP */
    static void moreNotesThanVoices(Due due) {
        Melodeon m = new Melodeon();
        for (int i = 0; i < 3; i++) {
            m.begin(0, 1 + i, 1);
        }
        for (int track = 0; track < 3; track++) {
            m.write(track, 0, 20 + track, 5, 100);
        }
        m.setTempo(1, 0);
        m.play(0);
        m.sample();
        pitches(due, m, 21, 22, 3, 20);
        due.same("taken()", m.taken(), 2);
        m.play(0);
        m.sample();
        pitches(due, m, 22, 22, 20, 21);
        due.same("taken()", m.taken(), 5);
        due.same("nextVoice()", m.nextVoice(), 1);
    }

    /** "behind 7 the STEP 0": the NOTE of 0 begins with the sample behind the last one of 7 */
    static void behindTheLastStepComesTheFirst(Due due) {
        Melodeon m = new Melodeon();
        m.setTempo(1, 0);
        m.write(0, 0, 30, 1, 100);
        m.write(0, 7, 37, 1, 100);
        m.play(7);
        m.sample();
        pitches(due, m, 37, 0);
        due.same("step()", m.step(), 0);
        m.sample();
        pitches(due, m, 37, 30);
        m.run(7);
        pitches(due, m, 37, 30, 37, 0);
        due.same("step()", m.step(), 0);
    }

    /** "it has a STEP (0 to 7) and how many samples of it were": with the last sample the next one is on */
    static void theNextStepIsOnBehindTheLastSample(Due due) {
        Melodeon m = new Melodeon();
        m.setTempo(2, 1);
        m.play(0);
        int[] steps = {0, 0, 1, 2, 2, 2, 3, 4, 4, 4, 5, 6, 6, 6, 7, 0, 0, 0, 1};
        for (int step : steps) {
            m.sample();
            due.same("step() at the clock " + m.clock(), m.step(), step);
        }
    }

    /** What does not PLAY begins nothing, though STEPS are written. */
    static void itDoesNotPlay(Due due) {
        Melodeon m = new Melodeon();
        for (int step = 0; step < 8; step++) {
            m.write(0, step, 9, 10, 100);
        }
        m.run(200);
        due.same("sounding()", m.sounding(), 0);
        due.same("step()", m.step(), -1);
    }
}
