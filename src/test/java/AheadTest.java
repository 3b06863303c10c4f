/** Promises 35 to 38: wouldPeak, silentIn, nextVoice, digest. See NotesTest for more of nextVoice. */
public final class AheadTest {
    private static final Due due = new Due("AheadTest");

    public static void main(String[] args) {
        peaksByHand();
        peaksThatCome();
        silencesThatCome();
        silences();
        silencesOfTracks();
        nextVoices();
        digests();
        digestOfAll();
        wrongOnes();
        nothingIsChanged();
        due.end();
    }

    private static void peaksByHand() {
        Melodeon m = Sounds.flat(-1000);
        due.same("silence", m.wouldPeak(200), 0);
        m.begin(0, 0, 127);
        due.same("0", m.wouldPeak(1), 0);
        due.same("-1000", m.wouldPeak(2), 1000);
        due.same("-3312", m.wouldPeak(4), 3312);
        m.run(4);
        m.end(0);
        due.same("behind the end; what was heard does not count", m.wouldPeak(9), 0);
        Melodeon clipped = Sounds.flat(-1000);
        clipped.setGain(256);
        for (int voice = 0; voice < 4; voice++) {
            clipped.begin(0, 0, 127);
        }
        due.same("as it is clipped", clipped.wouldPeak(3), 32767);
        Melodeon track = Sounds.flat(1000);
        track.setDelay(4, 256, 0);
        track.write(0, 0, 0, 127, 3);
        track.play(0);
        due.same("a note that begins", track.wouldPeak(3), 2248);
        due.same("and comes again from the delay", track.wouldPeak(9), 2248);
        track.run(3);
        due.same("2248 is in the delay", track.wouldPeak(3), 1000);
        due.same("2248 is in the delay", track.wouldPeak(4), 2248);
    }

    /** The same object again, in one of many states: many voices, taken ones among them, and an uneven delay. */
    private static Melodeon somewhere(int state) {
        Melodeon m = Sounds.busy();
        m.setDelay(3 + state % 5, 250, 40 * (state % 7));
        m.run(1 + 3 * state);
        for (int note = 0; note < state % 6; note++) {
            m.begin((state + note) % 4, (7 * state + 11 * note) % 48, 127 - note);
            m.run(1 + state % 4);
        }
        m.end(state % 4);
        if (state % 5 == 4) {
            m.stop();
        }
        return m;
    }

    private static void peaksThatCome() {
        for (int state = 0; state < 40; state++) {
            Melodeon asked = somewhere(state);
            for (int many = 1; many <= 200; many += many < 4 ? 1 : 28) {
                Melodeon other = somewhere(state);
                int would = asked.wouldPeak(many);
                other.reset();
                other.run(many);
                due.same("wouldPeak " + many + " in the state " + state, would, other.peak());
            }
        }
    }

    private static void silencesThatCome() {
        for (int state = 0; state < 40; state++) {
            Melodeon other = somewhere(state);
            int behind = 0;
            while (behind <= 200 && other.sounding() > 0) {
                other.sample();
                behind++;
            }
            due.same("silentIn in the state " + state, somewhere(state).silentIn(200), behind <= 200 ? behind : -1);
        }
    }

    private static void silences() {
        Melodeon m = new Melodeon();
        due.same("none sounds", m.silentIn(1), 0);
        m.begin(0, 0, 100);
        due.same("one sounds on", m.silentIn(200), -1);
        m.run(10);
        m.end(0);
        due.same("behind 10", m.silentIn(200), 10);
        due.same("behind 10", m.silentIn(10), 10);
        due.same("not behind 9", m.silentIn(9), -1);
        due.same("not behind 1", m.silentIn(1), -1);
        m.setEnvelope(0, 1, 1, 1, 1);
        due.same("by its instrument as it is", m.silentIn(1), 1);
        m.begin(1, 0, 100);
        due.same("another one sounds", m.silentIn(200), -1);
        m.hush();
        due.same("hushed", m.silentIn(200), 0);
        m.setDelay(100, 200, 200);
        due.same("the delay does not count", m.silentIn(200), 0);
    }

    private static void silencesOfTracks() {
        Melodeon m = new Melodeon();
        m.setEnvelope(0, 1, 1, 1000, 5);
        m.write(0, 0, 10, 100, 7);
        m.play(0);
        due.same("none sounds now, though one would begin", m.silentIn(9), 0);
        m.sample();
        due.same("6 of its gate, 5 of its release", m.silentIn(200), 11);
        m.write(0, 1, 10, 100, 7);
        due.same("it is silent ahead of the next one", m.silentIn(200), 11);
        m.setTempo(8, 0);
        due.same("the step is settled", m.silentIn(200), 11);
        m.play(1);
        due.same("the next one begins", m.silentIn(200), 12);
        m.setTempo(4, 0);
        m.play(0);
        due.same("two begin in turn, the last has 4 + 7 + 5", m.silentIn(200), 16);
        due.same("not sooner", m.silentIn(15), -1);
        m.stop();
        due.same("gates go on", m.silentIn(200), 11);
        m.run(3);
        due.same("gates go on", m.silentIn(200), 8);
    }

    private static void nextVoices() {
        Melodeon m = Sounds.busy();
        for (int i = 0; i < 60; i++) {
            m.run(1 + i % 3);
            if (i % 4 == 0) {
                m.end(i / 4 % 4);
            }
            int next = m.nextVoice();
            due.same("nextVoice again", m.nextVoice(), next);
            due.same("begin has it", m.begin(0, i % 48, 50), next);
        }
    }

    private static void digests() {
        long d = 58051;
        for (int i = 0; i < 1 + 8 + 3 + 2 + 1; i++) {
            d = d * 31;
        }
        d = d * 31 - 1;
        d = d * 31;
        for (int voice = 0; voice < 4; voice++) {
            for (int what = 0; what < 10; what++) {
                d = d * 31 + (what == 9 ? -1 : 0);
            }
        }
        for (int step = 0; step < 24; step++) {
            d = ((d * 31 - 1) * 31) * 31;
        }
        due.same("digest of a new one", new Melodeon().digest(), d);
        Melodeon m = new Melodeon();
        m.setDelay(2, 0, 0);
        due.same("digest with a delay", m.digest(), d * 31 * 31);
    }

    private static void digestOfAll() {
        Melodeon m = Sounds.busy();
        long d = 58051;
        d = d * 31 + m.clock();
        for (int back = 0; back <= 7; back++) {
            d = d * 31 + m.heard(back);
        }
        int[] rest = {m.peak(), m.clipped(), m.crossings(), m.sounding(), m.taken(), m.isPlaying() ? 1 : 0, m.step(),
            m.nextVoice()};
        for (int x : rest) {
            d = d * 31 + x;
        }
        for (int voice = 0; voice < 4; voice++) {
            for (int what = 0; what <= 9; what++) {
                d = d * 31 + m.ofVoice(voice, what);
            }
        }
        for (int track = 0; track < 3; track++) {
            for (int step = 0; step < 8; step++) {
                for (int what = 0; what <= 2; what++) {
                    d = d * 31 + m.ofStep(track, step, what);
                }
            }
        }
        for (int place = 0; place < 5; place++) {
            d = d * 31 + m.inDelay(place);
        }
        due.same("digest", m.digest(), d);
        due.same("digest again", m.digest(), d);
    }

    private static void wrongOnes() {
        Melodeon m = new Melodeon();
        due.noArgument("wouldPeak(0)", () -> m.wouldPeak(0));
        due.noArgument("wouldPeak(-1)", () -> m.wouldPeak(-1));
        due.noArgument("wouldPeak(201)", () -> m.wouldPeak(201));
        due.noArgument("silentIn(0), though none sounds", () -> m.silentIn(0));
        due.noArgument("silentIn(-1)", () -> m.silentIn(-1));
        due.noArgument("silentIn(201)", () -> m.silentIn(201));
    }

    private static void nothingIsChanged() {
        Melodeon asked = Sounds.busy();
        Melodeon other = Sounds.busy();
        for (int i = 0; i < 30; i++) {
            long before = asked.digest();
            asked.wouldPeak(1 + 6 * i);
            asked.silentIn(200 - i);
            asked.nextVoice();
            due.same("digest", asked.digest(), before);
            due.same("the next samples", asked.run(1 + i), other.run(1 + i));
        }
        due.same("what comes", Sounds.future(asked), Sounds.future(other));
    }
}
