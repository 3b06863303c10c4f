/** Promises 2 to 4: draw, wave, stride. */
public final class WavesTest {
    private static final Due due = new Due("WavesTest");

    public static void main(String[] args) {
        drawnValues();
        wrongDraws();
        valuesOfWaves();
        betweenValues();
        wrongWaves();
        strides();
        due.end();
    }

    private static void drawnValues() {
        Melodeon m = new Melodeon();
        for (int k = 0; k < 32; k++) {
            due.same("wave 3 at first, " + k, m.wave(3, k * 2048), 0);
            due.same("draw answers the value at first, " + k, m.draw(k, 30 * k - 400), 0);
        }
        for (int k = 0; k < 32; k++) {
            due.same("wave 3 as drawn, " + k, m.wave(3, k * 2048), 30 * k - 400);
            due.same("draw answers the value before, " + k, m.draw(k, -1000), 30 * k - 400);
        }
        due.same("draw the greatest", m.draw(31, 1000), -1000);
        due.same("draw the least", m.draw(31, -1000), 1000);
        due.same("the saw is not drawn", m.wave(0, 0), -992);
        due.same("another object is not drawn", new Melodeon().wave(3, 0), 0);
    }

    private static void wrongDraws() {
        Melodeon m = new Melodeon();
        m.draw(0, 5);
        m.draw(31, 6);
        due.noPlace("draw(-1, 0)", () -> m.draw(-1, 0));
        due.noPlace("draw(32, 0)", () -> m.draw(32, 0));
        due.noPlace("draw at the least place", () -> m.draw(Integer.MIN_VALUE, 0));
        due.noPlace("draw at the greatest place", () -> m.draw(Integer.MAX_VALUE, 0));
        due.noArgument("draw(0, 1001)", () -> m.draw(0, 1001));
        due.noArgument("draw(31, -1001)", () -> m.draw(31, -1001));
        due.noArgument("draw(0, least)", () -> m.draw(0, Integer.MIN_VALUE));
        due.noPlace("draw(32, 1001): the place is named first", () -> m.draw(32, 1001));
        due.same("nothing is changed at 0", m.draw(0, 5), 5);
        due.same("nothing is changed at 31", m.draw(31, 6), 6);
    }

    private static void valuesOfWaves() {
        Melodeon m = new Melodeon();
        for (int k = 0; k < 32; k++) {
            due.same("saw " + k, m.wave(0, k * 2048), -992 + 64 * k);
            due.same("square " + k, m.wave(1, k * 2048), k <= 15 ? 1000 : -1000);
        }
        int[] triangle = {-1000, -875, -750, -625, -500, -375, -250, -125, 0, 125, 250, 375, 500, 625, 750, 875,
            1000, 875, 750, 625, 500, 375, 250, 125, 0, -125, -250, -375, -500, -625, -750, -875};
        for (int k = 0; k < 32; k++) {
            due.same("triangle " + k, m.wave(2, k * 2048), triangle[k]);
        }
    }

    private static void betweenValues() {
        Melodeon m = new Melodeon();
        due.same("saw at 1024", m.wave(0, 1024), -960);
        due.same("saw at 31: 31 / 32 of one", m.wave(0, 31), -992);
        due.same("saw at 32: one", m.wave(0, 32), -991);
        due.same("saw at 2047: 63.97 of 64", m.wave(0, 2047), -929);
        due.same("saw, the last phase goes to the value 0, cut towards 0", m.wave(0, 65535), -991);
        due.same("square, half down", m.wave(1, 15 * 2048 + 1024), 0);
        due.same("square, down by 0.98", m.wave(1, 15 * 2048 + 1), 1000);
        due.same("square, down by 1.95", m.wave(1, 15 * 2048 + 2), 999);
        due.same("square, half up again", m.wave(1, 31 * 2048 + 1024), 0);
        due.same("square, the last phase", m.wave(1, 65535), 999);
        due.same("triangle at 1024: 62.5 more", m.wave(2, 1024), -938);
        due.same("triangle behind its top: 62.5 less", m.wave(2, 16 * 2048 + 1024), 938);
        m.draw(7, -1000);
        m.draw(8, 1000);
        due.same("drawn, a quarter up", m.wave(3, 7 * 2048 + 512), -500);
        due.same("drawn, from 0 down", m.wave(3, 6 * 2048 + 512), -250);
        due.same("drawn, back to 0", m.wave(3, 8 * 2048 + 1536), 250);
    }

    private static void wrongWaves() {
        Melodeon m = new Melodeon();
        due.noPlace("wave(-1, 0)", () -> m.wave(-1, 0));
        due.noPlace("wave(4, 0)", () -> m.wave(4, 0));
        due.noArgument("wave(0, -1)", () -> m.wave(0, -1));
        due.noArgument("wave(3, 65536)", () -> m.wave(3, 65536));
        due.noArgument("wave(3, greatest)", () -> m.wave(3, Integer.MAX_VALUE));
        due.noPlace("wave(4, -1): the wave is named first", () -> m.wave(4, -1));
    }

    private static void strides() {
        Melodeon m = new Melodeon();
        int[] table = {256, 271, 287, 304, 323, 342, 362, 384, 406, 431, 456, 483};
        int[] times = {1, 2, 4, 8};
        for (int pitch = 0; pitch < 48; pitch++) {
            due.same("stride " + pitch, m.stride(pitch), table[pitch % 12] * times[pitch / 12]);
        }
        due.noArgument("stride(-1)", () -> m.stride(-1));
        due.noArgument("stride(48)", () -> m.stride(48));
        due.noArgument("stride(least)", () -> m.stride(Integer.MIN_VALUE));
    }
}
