/** Promise 27: reset. */
public final class Promise27Test {
    public static void main(String[] args) {
        Tests.of(Promise27Test.class);
    }

    /** "Returns how many SAMPLES were counted": none at first, and none behind another reset() */
    static void withoutAny(Due due) {
        Melodeon m = new Melodeon();
        due.same("reset()", m.reset(), 0);
        due.same("reset() again", m.reset(), 0);
        m.run(5);
        due.same("reset() of 5", m.reset(), 5);
        due.same("reset() again", m.reset(), 0);
    }

    /** "Returns how many SAMPLES were counted": one, those of a run, and more than are heard */
    static void howManyWereCounted(Due due) {
        Melodeon m = new Melodeon();
        m.sample();
        due.same("reset() of 1", m.reset(), 1);
        m.run(200);
        m.sample();
        due.same("reset() of 201", m.reset(), 201);
        due.same("clock()", m.clock(), 202);
    }

    /** "Begins anew to count peak(), loudness(), clipped() and crossings()": all four are 0 then */
    static void allFourBeginAnew(Due due) {
        Melodeon m = Sounds.flat(1000);
        m.setGain(256);
        for (int i = 0; i < 4; i++) {
            m.begin(0, 0, 127);
        }
        m.run(4);
        due.same("peak()", m.peak(), 32767);
        due.same("clipped()", m.clipped(), 2);
        due.same("crossings()", m.crossings(), 1);
        m.reset();
        due.same("peak() behind reset()", m.peak(), 0);
        due.same("loudness() behind reset()", m.loudness(), 0.0);
        due.same("clipped() behind reset()", m.clipped(), 0);
        due.same("crossings() behind reset()", m.crossings(), 0);
        m.hush();
        m.run(3);
        due.same("peak() of silence", m.peak(), 0);
        due.same("loudness() of silence", m.loudness(), 0.0);
        due.same("reset() of silence", m.reset(), 3);
    }

    /** "heard() stays": all 64 of them, and those that there were not */
    static void heardStays(Due due) {
        Melodeon m = Twins.past();
        Melodeon other = Twins.past();
        due.same("reset()", m.reset(), other.reset());
        other.run(3);
        m.reset();
        m.run(3);
        for (int back = 0; back < 64; back++) {
            due.same("heard(" + back + ")", m.heard(back), other.heard(back));
        }
        Melodeon few = Sounds.flat(1000);
        few.begin(0, 0, 127);
        few.run(2);
        few.reset();
        due.same("heard(0) of few", few.heard(0), 1000);
        due.same("heard(1) of few", few.heard(1), 0);
        due.same("heard(63) of few", few.heard(63), 0);
    }

    /** It changes nothing but what is counted: taken() stays, and so does what comes. */
    static void allElseStays(Due due) {
        Melodeon m = new Melodeon();
        for (int i = 0; i < 6; i++) {
            m.begin(0, i, 100);
        }
        m.play(3);
        m.run(25);
        m.reset();
        due.same("taken()", m.taken(), 2);
        due.same("clock()", m.clock(), 25);
        due.same("step()", m.step(), 4);
        due.same("sounding()", m.sounding(), 4);
        Melodeon other = new Melodeon();
        for (int i = 0; i < 6; i++) {
            other.begin(0, i, 100);
        }
        other.play(3);
        other.run(25);
        due.same("run(50)", m.run(50), other.run(50));
    }
}
