/** Promises 28 to 34: ofVoice, sounding, taken, isPlaying, step, ofStep, inDelay. See NotesTest and TracksTest too. */
public final class AskingTest {
    private static final Due due = new Due("AskingTest");

    public static void main(String[] args) {
        voices();
        wrongVoices();
        freeVoices();
        soundings();
        takes();
        steps();
        inDelays();
        askingChangesNothing();
        due.end();
    }

    private static void voices() {
        Melodeon m = new Melodeon();
        m.setWaves(2, 1, 0, 9, 0);
        m.setEnvelope(2, 4, 4, 500, 4);
        m.begin(0, 1, 1);
        m.write(0, 0, 13, 99, 50);
        m.setTrack(0, 2);
        m.play(0);
        m.sample();
        int[] facts = {1, 250000, 2, 13, 99, 542, 551, 0, 500, 49};
        for (int what = 0; what < 10; what++) {
            due.same("fact " + what, m.ofVoice(1, what), facts[what]);
        }
        m.sample();
        int[] then = {1, 500000, 2, 13, 99, 1084, 1102, 250, 625, 48};
        for (int what = 0; what < 10; what++) {
            due.same("then, fact " + what, m.ofVoice(1, what), then[what]);
        }
    }

    private static void wrongVoices() {
        Melodeon m = new Melodeon();
        due.noPlace("ofVoice(-1, 0)", () -> m.ofVoice(-1, 0));
        due.noPlace("ofVoice(4, 0)", () -> m.ofVoice(4, 0));
        due.noArgument("ofVoice(0, -1)", () -> m.ofVoice(0, -1));
        due.noArgument("ofVoice(3, 10)", () -> m.ofVoice(3, 10));
        due.noPlace("ofVoice(4, 10): the voice is named first", () -> m.ofVoice(4, 10));
    }

    private static void freeVoices() {
        Melodeon m = Sounds.flat(1000);
        m.begin(0, 12, 77);
        m.run(3);
        m.end(0);
        m.run(9);
        int[] facts = {0, 0, 0, 12, 77, 3 * 512, 3 * 512, 562, 532, -1};
        for (int what = 0; what < 10; what++) {
            due.same("as it was left, fact " + what, m.ofVoice(0, what), facts[what]);
        }
    }

    private static void soundings() {
        Melodeon m = new Melodeon();
        m.setEnvelope(0, 1, 1, 0, 2);
        for (int voice = 0; voice < 4; voice++) {
            due.same("sounding", m.sounding(), voice);
            m.begin(0, 1, 1);
        }
        due.same("sounding", m.sounding(), 4);
        m.begin(0, 1, 1);
        due.same("sounding, one was taken", m.sounding(), 4);
        m.sample();
        m.end(2);
        due.same("a released one sounds", m.sounding(), 4);
        m.sample();
        due.same("a released one sounds", m.sounding(), 4);
        m.sample();
        due.same("a free one does not", m.sounding(), 3);
    }

    private static void takes() {
        Melodeon m = new Melodeon();
        m.begin(0, 1, 1);
        m.end(0);
        m.begin(0, 1, 1);
        due.same("there was a free one", m.taken(), 0);
        m.begin(0, 1, 1);
        m.begin(0, 1, 1);
        due.same("there was a free one", m.taken(), 0);
        m.begin(0, 1, 1);
        due.same("the released one was taken", m.taken(), 1);
        m.begin(0, 1, 1);
        due.same("another one was taken", m.taken(), 2);
        m.hush();
        m.begin(0, 1, 1);
        due.same("a hushed one was free", m.taken(), 2);
        m.reset();
        due.same("reset() does not count it anew", m.taken(), 2);
    }

    private static void steps() {
        Melodeon m = new Melodeon();
        m.write(1, 2, 3, 4, 5);
        int[] facts = {3, 4, 5};
        for (int what = 0; what < 3; what++) {
            due.same("ofStep " + what, m.ofStep(1, 2, what), facts[what]);
            due.same("ofStep of another track", m.ofStep(0, 2, what), what == 0 ? -1 : 0);
            due.same("ofStep of another step", m.ofStep(1, 3, what), what == 0 ? -1 : 0);
        }
        due.noPlace("ofStep(-1, 0, 0)", () -> m.ofStep(-1, 0, 0));
        due.noPlace("ofStep(3, 0, 0)", () -> m.ofStep(3, 0, 0));
        due.noPlace("ofStep(0, -1, 0)", () -> m.ofStep(0, -1, 0));
        due.noPlace("ofStep(0, 8, 0)", () -> m.ofStep(0, 8, 0));
        due.noArgument("ofStep(0, 0, -1)", () -> m.ofStep(0, 0, -1));
        due.noArgument("ofStep(0, 0, 3)", () -> m.ofStep(0, 0, 3));
        due.noPlace("ofStep(0, 8, 3): the step is named first", () -> m.ofStep(0, 8, 3));
        due.noPlace("ofStep(3, 0, 3): the track is named first", () -> m.ofStep(3, 0, 3));
    }

    private static void inDelays() {
        Melodeon m = Sounds.flat(1000);
        due.noPlace("inDelay(0) without a delay", () -> m.inDelay(0));
        m.setDelay(3, 0, 0);
        due.noPlace("inDelay(-1)", () -> m.inDelay(-1));
        due.noPlace("inDelay(3)", () -> m.inDelay(3));
        m.begin(0, 0, 127);
        int[][] rows = {{0, 0, 0}, {0, 0, 1000}, {0, 1000, 2248}, {1000, 2248, 3312}};
        for (int[] row : rows) {
            m.sample();
            for (int place = 0; place < 3; place++) {
                due.same("inDelay " + place, m.inDelay(place), row[place]);
            }
        }
        m.setDelay(2, 0, 0);
        due.noPlace("inDelay(2)", () -> m.inDelay(2));
        due.same("inDelay(1)", m.inDelay(1), 0);
        m.setDelay(0, 0, 0);
        due.noPlace("inDelay(0)", () -> m.inDelay(0));
        m.setDelay(200, 0, 0);
        due.same("inDelay(199)", m.inDelay(199), 0);
        due.noPlace("inDelay(200)", () -> m.inDelay(200));
    }

    private static void askingChangesNothing() {
        Melodeon asked = Sounds.busy();
        Melodeon other = Sounds.busy();
        for (int what = 0; what < 10; what++) {
            asked.ofVoice(what % 4, what);
            asked.ofStep(what % 3, what % 8, what % 3);
            asked.inDelay(what % 5);
            asked.heard(what);
        }
        asked.sounding();
        asked.taken();
        asked.isPlaying();
        asked.step();
        asked.clock();
        asked.peak();
        asked.loudness();
        asked.clipped();
        asked.crossings();
        asked.wave(0, 5);
        asked.stride(3);
        due.same("what comes", Sounds.future(asked), Sounds.future(other));
    }
}
