/** Promise 19, sample: the DELAY of Terms. */
public final class Promise19DelayTest {
    public static void main(String[] args) {
        Tests.of(Promise19DelayTest.class);
    }

    /** A row of one number, which is as far from 0 as it may be. */
    private static Melodeon full(int sign, int wet) {
        Melodeon m = Sounds.flat(1000 * sign);
        m.setGain(256);
        m.setDelay(1, wet, 256);
        m.begin(0, 0, 127);
        m.run(60);
        m.hush();
        return m;
    }

    /** A note that gives a sum of 0, then 1, then 2, behind GAIN / 16, or of -1, -2. */
    private static void quietNote(Melodeon m, int sign) {
        m.hush();
        Sounds.drawFlat(m, 1000 * sign);
        m.setGain(1);
        m.begin(0, 0, 9);
        m.sample();
    }

    /** "comes to its end (kept from -100000 to 100000)" */
    static void theRowIsKeptAbove(Due due) {
        Melodeon m = full(1, 1);
        due.same("inDelay(0)", m.inDelay(0), 100000);
        due.same("100000 / 256 = 390.6", m.sample(), 390);
        due.same("inDelay(0)", m.inDelay(0), 100000);
    }

    /** "comes to its end (kept from -100000 to 100000)" */
    static void theRowIsKeptBelow(Due due) {
        Melodeon m = full(-1, 1);
        due.same("inDelay(0)", m.inDelay(0), -100000);
        due.same("-100000 / 256 = -390.6", m.sample(), -390);
        due.same("inDelay(0)", m.inDelay(0), -100000);
    }

    /** 1 less than the limit is not kept, and 100000 is reached to the dot from there; 2 more do not go beyond it */
    static void nextToTheLimits(Due due) {
        for (int sign = -1; sign <= 1; sign += 2) {
            Melodeon m = full(sign, 0);
            quietNote(m, -sign);
            due.same("0 less", m.inDelay(0), 100000 * sign);
            m.sample();
            due.same("1 less", m.inDelay(0), 99999 * sign);
            quietNote(m, sign);
            m.sample();
            due.same("1 more", m.inDelay(0), 100000 * sign);
            m.sample();
            due.same("2 more are kept", m.inDelay(0), 100000 * sign);
        }
    }

    /** "and the SAMPLE is m + d * WET / 256": of the number that goes, before the new one is kept */
    static void theSampleIsOfTheOneThatGoes(Due due) {
        for (int sign = -1; sign <= 1; sign += 2) {
            Melodeon m = full(sign, 1);
            quietNote(m, sign);
            due.same("1 and 390 of 100000", m.sample(), 391 * sign);
            due.same("inDelay(0)", m.inDelay(0), 100000 * sign);
        }
    }

    /** "with d the first of the row, which goes": the row has L numbers, the latest at the end */
    static void theFirstGoesAndTheLastComes(Due due) {
        Melodeon m = Sounds.flat(1000);
        m.setDelay(3, 0, 0);
        m.begin(0, 0, 127);
        int[][] rows = {{0, 0, 0}, {0, 0, 1000}, {0, 1000, 2248}, {1000, 2248, 3312}, {2248, 3312, 4016}};
        for (int[] row : rows) {
            m.sample();
            for (int place = 0; place < 3; place++) {
                due.same("inDelay(" + place + ") at the clock " + m.clock(), m.inDelay(place), row[place]);
            }
        }
    }

    /** "with L above 0": the least row has one number, which is the first and the last of it */
    static void aRowOfOneNumber(Due due) {
        Melodeon m = Sounds.flat(1000);
        m.setDelay(1, 128, 64);
        m.begin(0, 0, 127);
        due.same("1000", m.run(2), 1000);
        due.same("inDelay(0)", m.inDelay(0), 1000);
        due.same("2248 and 500", m.sample(), 2748);
        due.same("2248 and 250", m.inDelay(0), 2498);
    }

    /** "with L 0 it is m", though WET and BACK are told */
    static void withoutARow(Due due) {
        Melodeon m = Sounds.flat(1000);
        m.setDelay(0, 256, 256);
        m.begin(0, 0, 127);
        int[] samples = {0, 1000, 2248, 3312};
        for (int sample : samples) {
            due.same("sample()", m.sample(), sample);
        }
    }

    /** "d * BACK / 256" and "d * WET / 256": each is cut towards 0, above it and below, ahead of the sum */
    static void whatComesBackIsCutTowardsZero(Due due) {
        for (int sign = -1; sign <= 1; sign += 2) {
            Melodeon m = Sounds.flat(1000 * sign);
            m.setDelay(1, 255, 3);
            m.begin(0, 0, 127);
            m.run(2);
            due.same("2248 and 996.09", m.sample(), 3244 * sign);
            due.same("2248 and 11.7", m.inDelay(0), 2259 * sign);
            Sounds.drawFlat(m, -1000 * sign);
            m.hush();
            due.same("2250.2 alone", m.sample(), 2250 * sign);
            due.same("26.5 alone", m.inDelay(0), 26 * sign);
            due.same("25.9 alone", m.sample(), 25 * sign);
            due.same("0.3 alone", m.inDelay(0), 0);
        }
    }

    /** What comes to the row is m as it is, not the SAMPLE as it is clipped */
    static void theRowIsNotClipped(Due due) {
        for (int sign = -1; sign <= 1; sign += 2) {
            Melodeon m = Sounds.flat(1000 * sign);
            m.setGain(256);
            m.setDelay(1, 256, 0);
            for (int i = 0; i < 4; i++) {
                m.begin(0, 0, 127);
            }
            due.same("35968 and 16000", m.run(3), 32767 * sign);
            due.same("inDelay(0)", m.inDelay(0), 35968 * sign);
            m.hush();
            due.same("35968 once more", m.sample(), 32767 * sign);
            due.same("clipped()", m.clipped(), 2);
            due.same("inDelay(0)", m.inDelay(0), 0);
        }
    }

    /** "to 200": each of 200 numbers comes in its turn, also the second time round */
    static void theLongestRowGoesRound(Due due) {
        Melodeon m = Sounds.flat(1000);
        m.setDelay(200, 256, 256);
        m.begin(0, 0, 127);
        m.run(3);
        m.hush();
        m.run(198);
        for (int round = 0; round < 3; round++) {
            due.same("1000 of the round " + round, m.sample(), 1000);
            due.same("2248 of the round " + round, m.sample(), 2248);
            due.same("inDelay(199)", m.inDelay(199), 2248);
            due.same("inDelay(198)", m.inDelay(198), 1000);
            due.same("nothing behind that", m.run(198), 0);
        }
    }
}
