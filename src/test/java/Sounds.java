/** What several tests begin with. */
final class Sounds {
    private Sounds() {
    }

    /** Draws the wave 3 with the same value all round. */
    static void drawFlat(Melodeon m, int value) {
        for (int k = 0; k < 32; k++) {
            m.draw(k, value);
        }
    }

    /**
     * The instrument 0 sounds at once and evenly, with the flat wave. Behind begin(0, 0, 127) its first LOWs are, for
     * the value 1000: 0, 250, 562, 828; its first BANDs 500, 625, 532, 352.
     */
    static Melodeon flat(int value) {
        Melodeon m = new Melodeon();
        drawFlat(m, value);
        m.setWaves(0, 3, 3, 0, 0);
        m.setEnvelope(0, 1, 1, 1000, 1);
        return m;
    }

    /** A little of everything, for tests that compare two objects with the same past. */
    static Melodeon busy() {
        Melodeon m = new Melodeon();
        m.draw(3, 700);
        m.draw(20, -900);
        m.setWaves(0, 1, 3, 5, 40);
        m.setWaves(1, 0, 2, -7, 50);
        m.setWaves(2, 3, 1, 64, 80);
        m.setEnvelope(0, 7, 9, 600, 12);
        m.setEnvelope(1, 3, 5, 0, 30);
        m.setEnvelope(2, 20, 20, 300, 4);
        m.setFilter(1, 90, 40);
        m.setVibrato(0, 30, 17);
        m.setGain(100);
        m.setDelay(5, 100, 90);
        m.write(0, 0, 12, 100, 3);
        m.write(0, 3, 30, 80, 7);
        m.write(1, 0, 40, 127, 2);
        m.write(1, 5, 0, 1, 200);
        m.write(2, 1, 47, 90, 9);
        m.setTrack(1, 2);
        m.setTrack(2, 1);
        m.setTempo(4, 1);
        m.begin(0, 5, 99);
        m.play(0);
        m.run(23);
        return m;
    }

    /** Many samples and what is asked of them, as one number: two objects that differ by anything told differ here. */
    static long future(Melodeon m) {
        long sum = m.digest();
        m.reset();
        for (int voice = 0; voice < 4; voice++) {
            m.begin(voice, 9 + 11 * voice, 120 - 30 * voice);
        }
        for (int i = 0; i < 12; i++) {
            m.run(7);
            sum = sum * 31 + m.digest();
        }
        m.end(0);
        m.end(1);
        m.end(2);
        m.end(3);
        for (int i = 0; i < 12; i++) {
            m.run(9);
            sum = sum * 31 + m.digest();
        }
        for (int phase = 0; phase < 65536; phase += 2048) {
            sum = sum * 31 + m.wave(3, phase);
        }
        return sum * 31 + (long) (m.loudness() * 1000);
    }
}
