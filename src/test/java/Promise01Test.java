/** Promise 1, a new object; and what Terms say of "at first", where a call shows it. */
public final class Promise01Test {
    public static void main(String[] args) {
        Tests.of(Promise01Test.class);
    }

    /** "Creates a synthesizer, at the CLOCK 0" */
    static void theClockIsZero(Due due) {
        due.same("clock()", new Melodeon().clock(), 0);
    }

    /** "that does not PLAY" */
    static void itDoesNotPlay(Due due) {
        Melodeon m = new Melodeon();
        due.no("isPlaying()", m.isPlaying());
        due.same("step()", m.step(), -1);
        due.same("stop()", m.stop(), -1);
        due.no("play(0)", m.play(0));
    }

    /** "3 the DRAWN one: 0 each, at first" */
    static void theDrawnWaveIsZero(Due due) {
        Melodeon m = new Melodeon();
        for (int k = 0; k < 32; k++) {
            due.same("wave(3, " + k * 2048 + ")", m.wave(3, k * 2048), 0);
            due.same("draw(" + k + ", 0)", m.draw(k, 0), 0);
        }
        due.same("wave(3, 65535)", m.wave(3, 65535), 0);
    }

    /** "a MIX (0 to 100; 0)", "SUSTAIN (0 to 1000; 1000)", "a CUTOFF (1 to 128; 128)", "a DEPTH (0 to 64; 0)" */
    static void theInstrumentsAnswerWhatTheyAreAtFirst(Due due) {
        Melodeon m = new Melodeon();
        for (int i = 0; i < 4; i++) {
            due.same("setWaves of " + i, m.setWaves(i, 1, 2, 3, 4), 0);
            due.same("setEnvelope of " + i, m.setEnvelope(i, 5, 6, 7, 8), 1000);
            due.same("setFilter of " + i, m.setFilter(i, 9, 17), 128);
            due.same("setVibrato of " + i, m.setVibrato(i, 11, 12), 0);
        }
    }

    /** "ATTACK, DECAY and RELEASE (1 to 400 samples; 10, 10, 10)": the first DECAY can't be seen, SUSTAIN is 1000. */
    static void theRampsHaveTenSamplesAtFirst(Due due) {
        for (int i = 0; i < 4; i++) {
            Melodeon m = new Melodeon();
            m.begin(i, 0, 127);
            level(due, m, 1, 1, 100000);
            level(due, m, 8, 1, 900000);
            level(due, m, 1, 2, 1000000);
            level(due, m, 1, 3, 1000000);
            m.end(0);
            level(due, m, 1, 4, 900000);
            level(due, m, 8, 4, 100000);
            level(due, m, 1, 0, 0);
        }
    }

    private static void level(Due due, Melodeon m, int samples, int state, int level) {
        m.run(samples);
        due.same("state at the clock " + m.clock(), m.ofVoice(0, 0), state);
        due.same("level at the clock " + m.clock(), m.ofVoice(0, 1), level);
    }

    /** "two WAVES (0 and 0, at first), a DETUNE (-64 to 64; 0)", CUTOFF 128, DAMPING 256, DEPTH 0 */
    static void theFirstSoundIsThePlainSaw(Due due) {
        for (int i = 0; i < 4; i++) {
            Melodeon m = new Melodeon();
            m.begin(i, 0, 127);
            m.sample();
            due.same("BAND behind -992", m.ofVoice(0, 8), -496);
            m.sample();
            due.same("LOW", m.ofVoice(0, 7), -248);
            due.same("BAND behind -984 + 248 + 496", m.ofVoice(0, 8), -496 - 120);
            due.same("first PHASE", m.ofVoice(0, 5), 512);
            due.same("second PHASE", m.ofVoice(0, 6), 512);
        }
    }

    /** All that Terms name for an instrument at first, told by hand, is no other sound. */
    static void whatIsAtFirstMayBeTold(Due due) {
        Melodeon told = new Melodeon();
        for (int i = 0; i < 4; i++) {
            told.setWaves(i, 0, 0, 0, 0);
            told.setEnvelope(i, 10, 10, 1000, 10);
            told.setFilter(i, 128, 256);
            told.setVibrato(i, 0, 64);
        }
        told.setGain(64);
        told.setDelay(0, 0, 0);
        told.setTempo(20, 0);
        for (int track = 0; track < 3; track++) {
            told.setTrack(track, 0);
            for (int step = 0; step < 8; step++) {
                told.write(track, step, -1, 0, 0);
            }
        }
        due.same("a new object", Twins.story(new Melodeon()), Twins.story(told));
    }

    /** "times GAIN (0 to 256; 64, at first)" */
    static void theGainIsSixtyFour(Due due) {
        due.same("setGain(64)", new Melodeon().setGain(64), 64);
        Melodeon m = Sounds.flat(1000);
        m.begin(0, 0, 127);
        due.same("250 * 64 / 16", m.run(2), 1000);
    }

    /** "The DELAY has a LENGTH L (0 for none, at first, to 200)" */
    static void thereIsNoDelay(Due due) {
        Melodeon m = new Melodeon();
        due.noPlace("inDelay(0)", () -> m.inDelay(0));
        due.same("setDelay(0, 0, 0)", m.setDelay(0, 0, 0), 0);
    }

    /** "each is FREE (0)"; "0 each at first, but -1 for 9" */
    static void theVoicesAreFree(Due due) {
        Melodeon m = new Melodeon();
        for (int voice = 0; voice < 4; voice++) {
            for (int what = 0; what < 9; what++) {
                due.same("ofVoice(" + voice + ", " + what + ")", m.ofVoice(voice, what), 0);
            }
            due.same("ofVoice(" + voice + ", 9)", m.ofVoice(voice, 9), -1);
        }
        due.same("sounding()", m.sounding(), 0);
        due.same("taken()", m.taken(), 0);
        due.same("nextVoice()", m.nextVoice(), 0);
        due.same("hush()", m.hush(), 0);
    }

    /** "8 STEPS, each empty (at first)" */
    static void theStepsAreEmpty(Due due) {
        Melodeon m = new Melodeon();
        for (int track = 0; track < 3; track++) {
            for (int step = 0; step < 8; step++) {
                due.same("pitch of " + track + ", " + step, m.ofStep(track, step, 0), -1);
                due.same("force of " + track + ", " + step, m.ofStep(track, step, 1), 0);
                due.same("gate of " + track + ", " + step, m.ofStep(track, step, 2), 0);
            }
        }
        m.setTempo(1, 0);
        m.play(0);
        for (int i = 0; i < 8; i++) {
            m.sample();
            due.same("sounding() in the step " + i, m.sounding(), 0);
        }
    }

    /** "each with an INSTRUMENT (0, at first)" */
    static void theTracksHaveTheInstrumentZero(Due due) {
        Melodeon m = new Melodeon();
        for (int track = 0; track < 3; track++) {
            due.same("setTrack(" + track + ", 3)", m.setTrack(track, 3), 0);
        }
    }

    /** "TEMPO is how many samples a STEP has (1 to 200; 20, at first), SWING ... (0, at first ...)" */
    static void theTempoIsTwentyWithoutSwing(Due due) {
        due.same("setTempo(5, 0)", new Melodeon().setTempo(5, 0), 20);
        Melodeon m = new Melodeon();
        m.play(0);
        for (int step = 0; step < 8; step++) {
            m.run(19);
            due.same("step() behind 19 samples", m.step(), step);
            m.sample();
            due.same("step() behind 20 samples", m.step(), (step + 1) % 8);
        }
    }

    /** "0 if there were not so many"; "0 without any", of peak() and of loudness(); nothing is counted */
    static void nothingIsHeard(Due due) {
        Melodeon m = new Melodeon();
        for (int back = 0; back < 64; back++) {
            due.same("heard(" + back + ")", m.heard(back), 0);
        }
        due.same("peak()", m.peak(), 0);
        due.same("loudness()", m.loudness(), 0.0);
        due.same("clipped()", m.clipped(), 0);
        due.same("crossings()", m.crossings(), 0);
        due.same("reset()", m.reset(), 0);
        due.same("wouldPeak(200)", m.wouldPeak(200), 0);
        due.same("silentIn(1)", m.silentIn(1), 0);
        due.same("run(200)", m.run(200), 0);
    }

    /** A new object has nothing of one that was made and used before. */
    static void itSharesNothingWithAnother(Due due) {
        Melodeon other = Twins.past();
        due.same("digest()", new Melodeon().digest(), AllZero.digest(0));
        due.same("a story", Twins.story(new Melodeon()), Twins.story(new Melodeon()));
        due.same("the other one", Twins.story(other), Twins.story(Twins.past()));
    }
}
