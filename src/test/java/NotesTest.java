/** Promises 11 to 13: begin, end, hush; and 37, nextVoice, with 30, taken. */
public final class NotesTest {
    private static final Due due = new Due("NotesTest");

    public static void main(String[] args) {
        begins();
        freeOnesFirst();
        thenReleasedOnes();
        releasedOnesOfOneLevel();
        thenTheOldest();
        takenVoice();
        oldestCountsFromItsNewNote();
        ends();
        hushes();
        forces();
        wrongOnes();
        due.end();
    }

    private static void state(Melodeon m, int voice, int state) {
        due.same("state of " + voice, m.ofVoice(voice, 0), state);
    }

    private static void begins() {
        Melodeon m = new Melodeon();
        due.same("begin", m.begin(3, 47, 127), 0);
        int[] facts = {1, 0, 3, 47, 127, 0, 0, 0, 0, -1};
        for (int what = 0; what < 10; what++) {
            due.same("fact " + what, m.ofVoice(0, what), facts[what]);
        }
        due.same("begin", m.begin(0, 0, 1), 1);
        due.same("instrument", m.ofVoice(1, 2), 0);
        due.same("pitch", m.ofVoice(1, 3), 0);
        due.same("force", m.ofVoice(1, 4), 1);
        due.same("sounding", m.sounding(), 2);
        due.same("clock", m.clock(), 0);
    }

    private static void freeOnesFirst() {
        Melodeon m = new Melodeon();
        for (int voice = 0; voice < 4; voice++) {
            due.same("next", m.nextVoice(), voice);
            due.same("begin", m.begin(0, voice, 100), voice);
        }
        due.same("taken", m.taken(), 0);
        m.run(3);
        m.end(3);
        m.end(1);
        m.run(10);
        state(m, 1, 0);
        state(m, 3, 0);
        m.end(0);
        due.same("free ahead of released, the smallest number", m.nextVoice(), 1);
        due.same("begin", m.begin(0, 10, 100), 1);
        due.same("the other free one", m.begin(0, 10, 100), 3);
        due.same("taken", m.taken(), 0);
        due.same("the released one", m.begin(0, 10, 100), 0);
        due.same("taken", m.taken(), 1);
    }

    private static Melodeon full() {
        Melodeon m = new Melodeon();
        m.setEnvelope(0, 100, 10, 1000, 400);
        for (int voice = 0; voice < 4; voice++) {
            m.begin(0, voice, 100);
            m.run(10);
        }
        return m;
    }

    private static void thenReleasedOnes() {
        Melodeon m = full();
        due.same("level 0", m.ofVoice(0, 1), 400000);
        due.same("level 3", m.ofVoice(3, 1), 100000);
        due.same("none is released: the oldest", m.nextVoice(), 0);
        m.end(1);
        due.same("the released one", m.nextVoice(), 1);
        m.end(2);
        due.same("the one with the least level", m.nextVoice(), 2);
        m.end(0);
        due.same("the one with the least level", m.nextVoice(), 2);
        due.same("begin", m.begin(0, 40, 100), 2);
        due.same("then the next", m.begin(0, 40, 100), 1);
        due.same("then the next", m.begin(0, 40, 100), 0);
        due.same("then the oldest", m.begin(0, 40, 100), 3);
        due.same("then the oldest", m.begin(0, 40, 100), 2);
        due.same("taken", m.taken(), 5);
        due.same("a taken one keeps its level", m.ofVoice(1, 1), 300000);
    }

    private static void releasedOnesOfOneLevel() {
        Melodeon m = new Melodeon();
        for (int voice = 0; voice < 4; voice++) {
            m.begin(0, voice, 100);
        }
        m.run(4);
        m.end(3);
        m.end(2);
        m.end(1);
        due.same("of one level, the smallest number", m.nextVoice(), 1);
        due.same("begin", m.begin(0, 0, 1), 1);
        due.same("then the next", m.nextVoice(), 2);
        Melodeon other = new Melodeon();
        for (int voice = 0; voice < 4; voice++) {
            other.begin(0, voice, 100);
        }
        other.end(3);
        due.same("released at the level 0 is not free, but ahead of the others", other.begin(0, 9, 9), 3);
        due.same("it was taken", other.taken(), 1);
    }

    private static void thenTheOldest() {
        Melodeon m = new Melodeon();
        for (int voice = 0; voice < 4; voice++) {
            m.begin(0, voice, 100);
        }
        for (int i = 0; i < 10; i++) {
            due.same("next", m.nextVoice(), i % 4);
            due.same("begin, all at one clock", m.begin(0, i, 100), i % 4);
            due.same("taken", m.taken(), i + 1);
        }
        m.run(200);
        due.same("begin, all in sustain", m.begin(0, 1, 100), 2);
    }

    private static void oldestCountsFromItsNewNote() {
        Melodeon m = new Melodeon();
        for (int voice = 0; voice < 4; voice++) {
            m.begin(0, voice, 100);
        }
        m.run(30);
        m.end(0);
        m.run(15);
        due.same("voice 0 was free", m.begin(0, 30, 100), 0);
        due.same("voice 1 is the oldest now", m.nextVoice(), 1);
        m.end(2);
        due.same("begin", m.begin(0, 30, 100), 2);
        due.same("1", m.begin(0, 30, 100), 1);
        due.same("3", m.begin(0, 30, 100), 3);
        due.same("0", m.begin(0, 30, 100), 0);
        due.same("2", m.begin(0, 30, 100), 2);
    }

    private static void takenVoice() {
        Melodeon m = new Melodeon();
        m.setEnvelope(0, 10, 10, 500, 10);
        for (int voice = 0; voice < 4; voice++) {
            m.begin(0, 20, 100);
        }
        m.run(15);
        int level = m.ofVoice(0, 1);
        due.same("level in decay", level, 1000000 - 5 * 50001);
        m.begin(2, 7, 90);
        int[] facts = {1, level, 2, 7, 90, 0, 0, 0, 0, -1};
        for (int what = 0; what < 10; what++) {
            due.same("fact " + what, m.ofVoice(0, what), facts[what]);
        }
        m.sample();
        due.same("it goes on from its level", m.ofVoice(0, 1), level + 100000);
        m.run(2);
        due.same("and comes to the top sooner", m.ofVoice(0, 0), 2);
    }

    private static void ends() {
        Melodeon m = new Melodeon();
        m.setEnvelope(0, 2, 3, 500, 4);
        due.same("end of a free one", m.end(0), 0);
        state(m, 0, 0);
        m.begin(0, 0, 100);
        due.same("end in attack", m.end(0), 1);
        state(m, 0, 4);
        due.same("end in release", m.end(0), 4);
        state(m, 0, 4);
        m.begin(0, 0, 100);
        m.run(2);
        due.same("it is in the voice 1", m.end(1), 2);
        state(m, 1, 4);
        m.begin(0, 0, 100);
        m.run(6);
        due.same("end in sustain", m.end(0), 3);
        due.same("the level stays", m.ofVoice(0, 1), 500000);
        due.same("the pitch stays", m.ofVoice(0, 3), 0);
        due.same("end of the last voice", m.end(3), 0);
    }

    private static void hushes() {
        Melodeon m = new Melodeon();
        due.same("hush of nothing", m.hush(), 0);
        m.write(0, 0, 5, 66, 50);
        m.play(0);
        m.run(12);
        m.begin(1, 6, 77);
        m.begin(2, 7, 88);
        m.run(2);
        m.end(1);
        int[] phases = {m.ofVoice(0, 5), m.ofVoice(0, 6), m.ofVoice(0, 7), m.ofVoice(0, 8)};
        due.same("gate", m.ofVoice(0, 9), 36);
        due.same("hush", m.hush(), 3);
        due.same("sounding", m.sounding(), 0);
        for (int voice = 0; voice < 4; voice++) {
            state(m, voice, 0);
            due.same("level", m.ofVoice(voice, 1), 0);
            due.same("gate", m.ofVoice(voice, 9), -1);
        }
        due.same("pitch is as it was left", m.ofVoice(0, 3), 5);
        due.same("force is as it was left", m.ofVoice(0, 4), 66);
        due.same("instrument is as it was left", m.ofVoice(2, 2), 2);
        for (int what = 5; what < 9; what++) {
            due.same("fact " + what + " is as it was left", m.ofVoice(0, what), phases[what - 5]);
        }
        due.yes("it plays on", m.isPlaying());
        due.same("hush again", m.hush(), 0);
        due.same("taken", m.taken(), 0);
        due.same("the first one is free", m.begin(0, 1, 1), 0);
        Melodeon gates = new Melodeon();
        gates.write(0, 0, 5, 66, 50);
        gates.setEnvelope(0, 1, 1, 1, 1);
        gates.play(0);
        gates.sample();
        gates.end(0);
        gates.sample();
        due.same("free already, with a gate", gates.ofVoice(0, 9), 48);
        due.same("hush counts no free ones", gates.hush(), 0);
        due.same("but takes their gates", gates.ofVoice(0, 9), -1);
    }

    private static int thirdSample(int value, int force) {
        Melodeon m = Sounds.flat(value);
        m.setGain(16);
        m.begin(0, 0, force);
        return m.run(3);
    }

    private static void forces() {
        due.same("force 127", thirdSample(1000, 127), 562);
        due.same("force 1: 4.4", thirdSample(1000, 1), 4);
        due.same("force 64: 283.2", thirdSample(1000, 64), 283);
        due.same("force 64, below 0", thirdSample(-1000, 64), -283);
        Melodeon m = Sounds.flat(1000);
        m.setGain(16);
        m.setEnvelope(0, 7, 1, 1000, 1);
        m.begin(0, 0, 50);
        due.same("562 * 50 / 127 = 221; times 428; / 1000 = 94.6", m.run(3), 94);
        Melodeon cut = Sounds.flat(1000);
        cut.setGain(16);
        cut.setEnvelope(0, 400, 1, 1000, 1);
        cut.begin(0, 0, 100);
        due.same("250 * 100 / 127 = 196; times 5; / 1000 = 0.98", cut.run(2), 0);
        due.same("562 * 100 / 127 = 442; times 7 (of 7500); / 1000 = 3.09", cut.sample(), 3);
    }

    private static void wrongOnes() {
        Melodeon m = new Melodeon();
        long before = m.digest();
        due.noPlace("begin, instrument -1", () -> m.begin(-1, 0, 1));
        due.noPlace("begin, instrument 4", () -> m.begin(4, 0, 1));
        due.noArgument("begin, pitch -1", () -> m.begin(0, -1, 1));
        due.noArgument("begin, pitch 48", () -> m.begin(0, 48, 1));
        due.noArgument("begin, force 0", () -> m.begin(0, 0, 0));
        due.noArgument("begin, force 128", () -> m.begin(0, 0, 128));
        due.noPlace("begin, instrument ahead of pitch", () -> m.begin(4, 48, 0));
        due.noPlace("end(-1)", () -> m.end(-1));
        due.noPlace("end(4)", () -> m.end(4));
        due.same("nothing is changed", m.digest(), before);
    }
}
