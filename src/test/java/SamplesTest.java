/** Promises 1 and 19 to 22: a new object, sample, run, heard, clock. */
public final class SamplesTest {
    private static final Due due = new Due("SamplesTest");

    public static void main(String[] args) {
        newObject();
        samples();
        runsAreSamples();
        heards();
        clipping();
        wrongOnes();
        due.end();
    }

    private static void newObject() {
        Melodeon m = new Melodeon();
        due.same("clock", m.clock(), 0);
        due.no("isPlaying", m.isPlaying());
        due.same("step", m.step(), -1);
        due.same("sounding", m.sounding(), 0);
        due.same("taken", m.taken(), 0);
        due.same("peak", m.peak(), 0);
        due.same("loudness", m.loudness(), 0.0);
        due.same("clipped", m.clipped(), 0);
        due.same("crossings", m.crossings(), 0);
        due.same("reset", m.reset(), 0);
        due.same("nextVoice", m.nextVoice(), 0);
        for (int voice = 0; voice < 4; voice++) {
            for (int what = 0; what < 10; what++) {
                due.same("ofVoice " + voice + " " + what, m.ofVoice(voice, what), what == 9 ? -1 : 0);
            }
        }
        due.same("a sample of nothing", m.sample(), 0);
        due.same("clock", m.clock(), 1);
    }

    private static void samples() {
        Melodeon m = Sounds.flat(1000);
        m.begin(0, 0, 127);
        int[] made = {0, 1000, 2248, 3312};
        for (int i = 0; i < 4; i++) {
            due.same("clock", m.clock(), i);
            due.same("sample " + i, m.sample(), made[i]);
        }
        Melodeon two = Sounds.flat(-1000);
        two.begin(0, 0, 127);
        two.sample();
        two.begin(0, 0, 127);
        due.same("one alone", two.sample(), -1000);
        due.same("-562 and -250", two.sample(), -3248);
        two.end(0);
        due.same("the released one gives 0 already, -562 stays", two.sample(), -2248);
        due.same("and is free", two.sounding(), 1);
        due.same("its LOW is as it was left", two.ofVoice(0, 7), -562);
        due.same("its first phase too", two.ofVoice(0, 5), 3 * 256);
    }

    private static void runsAreSamples() {
        Melodeon one = Sounds.busy();
        Melodeon other = Sounds.busy();
        int last = 0;
        for (int i = 0; i < 200; i++) {
            last = one.sample();
        }
        due.same("run", other.run(200), last);
        due.same("digest", other.digest(), one.digest());
        due.same("loudness", other.loudness(), one.loudness());
        due.same("run(1)", other.run(1), one.sample());
        due.same("clock", other.clock(), 23 + 201);
    }

    private static void heards() {
        Melodeon m = Sounds.busy();
        int[] all = new int[150];
        for (int i = 0; i < all.length; i++) {
            all[i] = m.sample();
        }
        for (int back = 0; back < 64; back++) {
            due.same("heard " + back, m.heard(back), all[all.length - 1 - back]);
        }
        m.reset();
        due.same("heard stays behind reset", m.heard(63), all[all.length - 64]);
        Melodeon few = Sounds.flat(1000);
        for (int back = 0; back < 64; back++) {
            due.same("heard without any", few.heard(back), 0);
        }
        few.begin(0, 0, 127);
        few.run(3);
        int[] heard = {2248, 1000, 0, 0, 0};
        for (int back = 0; back < heard.length; back++) {
            due.same("heard of few", few.heard(back), heard[back]);
        }
        due.same("heard of few", few.heard(63), 0);
        due.same("heard of few", few.heard(62), 0);
    }

    private static void clipping() {
        for (int sign = -1; sign <= 1; sign += 2) {
            Melodeon m = Sounds.flat(1000 * sign);
            m.setGain(256);
            for (int voice = 0; voice < 4; voice++) {
                m.begin(0, 0, 127);
            }
            due.same("0", m.sample(), 0);
            due.same("250 * 4 * 16", m.sample(), 16000 * sign);
            due.same("562 * 4 * 16 = 35968", m.sample(), 32767 * sign);
            due.same("heard as it is clipped", m.heard(0), 32767 * sign);
            due.same("clipped", m.clipped(), 1);
        }
    }

    private static void wrongOnes() {
        Melodeon m = Sounds.busy();
        long before = m.digest();
        due.noArgument("run(0)", () -> m.run(0));
        due.noArgument("run(-1)", () -> m.run(-1));
        due.noArgument("run(201)", () -> m.run(201));
        due.noArgument("run(greatest)", () -> m.run(Integer.MAX_VALUE));
        due.noArgument("heard(-1)", () -> m.heard(-1));
        due.noArgument("heard(64)", () -> m.heard(64));
        due.noArgument("heard(least)", () -> m.heard(Integer.MIN_VALUE));
        due.same("nothing is changed", m.digest(), before);
        due.same("clock", m.clock(), 23);
    }
}
