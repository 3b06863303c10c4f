/** Promise 21: heard. */
public final class Promise21Test {
    public static void main(String[] args) {
        Tests.of(Promise21Test.class);
    }

    /** The wave goes on as a ramp, so that no two SAMPLES next to each other are the same. */
    private static Melodeon note() {
        Melodeon m = new Melodeon();
        m.begin(0, 20, 127);
        return m;
    }

    /** "0 for the latest one": behind each sample */
    static void theLatestOne(Due due) {
        Melodeon m = note();
        for (int i = 0; i < 100; i++) {
            int made = m.sample();
            due.same("heard(0) at the clock " + i, m.heard(0), made);
        }
    }

    /** "if back is not 0 to 63": 63 is the one 63 ahead of the latest, however many were made */
    static void theOneFarthestBack(Due due) {
        for (int made : new int[] {64, 65, 127, 128, 129, 200}) {
            Melodeon m = note();
            int[] all = new int[made];
            for (int i = 0; i < made; i++) {
                all[i] = m.sample();
            }
            for (int back : new int[] {0, 1, 62, 63}) {
                due.same("heard(" + back + ") of " + made, m.heard(back), all[made - 1 - back]);
            }
            due.yes("two next to each other are not the same", all[made - 64] != all[made - 63]);
        }
    }

    /** "Throws IllegalArgumentException if back is not 0 to 63" */
    static void noOneIsFartherBack(Due due) {
        for (int back : Twins.outside(0, 63)) {
            Twins.noArgument(due, "heard(" + back + ")", m -> m.heard(back));
            Melodeon m = new Melodeon();
            due.noArgument("heard(" + back + ") without any", () -> m.heard(back));
        }
    }

    /** "0 if there were not so many": none at all */
    static void withoutAny(Due due) {
        Melodeon m = new Melodeon();
        for (int back = 0; back < 64; back++) {
            due.same("heard(" + back + ")", m.heard(back), 0);
        }
    }

    /** "0 if there were not so many": few of them, the first of which is not 0 any more */
    static void withFew(Due due) {
        Melodeon m = Sounds.flat(1000);
        m.begin(0, 0, 127);
        m.run(4);
        int[] heard = {3312, 2248, 1000, 0, 0, 0};
        for (int back = 0; back < heard.length; back++) {
            due.same("heard(" + back + ")", m.heard(back), heard[back]);
        }
        due.same("heard(62)", m.heard(62), 0);
        due.same("heard(63)", m.heard(63), 0);
    }

    /** The second SAMPLE, the first that is not 0, is heard(62) of 64, heard(63) of 65, and then no more */
    static void atTheEdgeOfSoMany(Due due) {
        Melodeon m = Sounds.flat(1000);
        m.begin(0, 0, 127);
        m.run(2);
        m.hush();
        m.run(61);
        due.same("heard(61) of 63", m.heard(61), 1000);
        due.same("heard(62) of 63", m.heard(62), 0);
        due.same("heard(63) of 63", m.heard(63), 0);
        m.sample();
        due.same("heard(62) of 64", m.heard(62), 1000);
        due.same("heard(63) of 64", m.heard(63), 0);
        m.sample();
        due.same("heard(63) of 65", m.heard(63), 1000);
        m.sample();
        for (int back = 0; back < 64; back++) {
            due.same("heard(" + back + ") of 66", m.heard(back), 0);
        }
    }

    /** "SAMPLES": as they are clipped, above 0 and below it */
    static void asItIsClipped(Due due) {
        for (int sign = -1; sign <= 1; sign += 2) {
            Melodeon m = Sounds.flat(1000 * sign);
            m.setGain(256);
            for (int i = 0; i < 4; i++) {
                m.begin(0, 0, 127);
            }
            m.run(3);
            due.same("heard(0)", m.heard(0), 32767 * sign);
            due.same("heard(1)", m.heard(1), 16000 * sign);
        }
    }

    /** What would come is not heard, and what makes no SAMPLE moves none of them back */
    static void onlySamplesMoveItBack(Due due) {
        Melodeon m = note();
        m.run(9);
        int latest = m.heard(0);
        int before = m.heard(1);
        m.wouldPeak(200);
        m.silentIn(200);
        m.hush();
        m.reset();
        m.play(0);
        m.stop();
        due.same("heard(0)", m.heard(0), latest);
        due.same("heard(1)", m.heard(1), before);
    }
}
