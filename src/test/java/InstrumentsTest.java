/** Promises 5 to 10: setWaves, setEnvelope, setFilter, setVibrato, setGain, setDelay. */
public final class InstrumentsTest {
    private static final Due due = new Due("InstrumentsTest");

    public static void main(String[] args) {
        answersOfEach();
        edges();
        wrongWaves();
        wrongEnvelopes();
        wrongFilters();
        wrongVibratos();
        mixes();
        detunes();
        toldAsItSounds();
        levels();
        levelsToTheDot();
        levelsToldOnTheWay();
        filters();
        filterLimits();
        vibratos();
        gains();
        delays();
        delayLimits();
        wrongGainsAndDelays();
        due.end();
    }

    private static void answersOfEach() {
        Melodeon m = new Melodeon();
        for (int i = 0; i < 4; i++) {
            due.same("mix at first " + i, m.setWaves(i, 1, 2, 3, 10 + i), 0);
            due.same("sustain at first " + i, m.setEnvelope(i, 1, 2, 500 + i, 4), 1000);
            due.same("cutoff at first " + i, m.setFilter(i, 20 + i, 30), 128);
            due.same("depth at first " + i, m.setVibrato(i, 40 + i, 50), 0);
        }
        for (int i = 0; i < 4; i++) {
            due.same("mix before " + i, m.setWaves(i, 0, 0, 0, 0), 10 + i);
            due.same("sustain before " + i, m.setEnvelope(i, 1, 1, 0, 1), 500 + i);
            due.same("cutoff before " + i, m.setFilter(i, 1, 16), 20 + i);
            due.same("depth before " + i, m.setVibrato(i, 0, 8), 40 + i);
        }
        due.same("gain at first", m.setGain(5), 64);
        due.same("gain before", m.setGain(0), 5);
        due.same("delay at first", m.setDelay(7, 1, 2), 0);
        due.same("delay before", m.setDelay(0, 1, 2), 7);
    }

    private static void edges() {
        Melodeon m = new Melodeon();
        m.setWaves(3, 3, 3, 64, 100);
        due.same("waves, least", m.setWaves(3, 0, 0, -64, 0), 100);
        m.setEnvelope(3, 400, 400, 1000, 400);
        due.same("envelope, least", m.setEnvelope(3, 1, 1, 0, 1), 1000);
        due.same("envelope, behind least", m.setEnvelope(3, 1, 1, 0, 1), 0);
        m.setFilter(3, 128, 256);
        due.same("filter, least", m.setFilter(3, 1, 16), 128);
        due.same("filter, behind least", m.setFilter(3, 1, 16), 1);
        m.setVibrato(3, 64, 255);
        due.same("vibrato, least", m.setVibrato(3, 0, 8), 64);
        m.setGain(256);
        due.same("gain, least", m.setGain(0), 256);
        m.setDelay(200, 256, 256);
        due.same("delay, least", m.setDelay(0, 0, 0), 200);
    }

    private static void wrongWaves() {
        Melodeon m = new Melodeon();
        due.noPlace("setWaves, instrument -1", () -> m.setWaves(-1, 0, 0, 0, 0));
        due.noPlace("setWaves, instrument 4", () -> m.setWaves(4, 0, 0, 0, 0));
        due.noPlace("setWaves, one -1", () -> m.setWaves(0, -1, 0, 0, 7));
        due.noPlace("setWaves, one 4", () -> m.setWaves(0, 4, 0, 0, 7));
        due.noPlace("setWaves, other -1", () -> m.setWaves(0, 0, -1, 0, 7));
        due.noPlace("setWaves, other 4", () -> m.setWaves(0, 0, 4, 0, 7));
        due.noArgument("setWaves, detune -65", () -> m.setWaves(0, 0, 0, -65, 7));
        due.noArgument("setWaves, detune 65", () -> m.setWaves(0, 0, 0, 65, 7));
        due.noArgument("setWaves, mix -1", () -> m.setWaves(0, 0, 0, 0, -1));
        due.noArgument("setWaves, mix 101", () -> m.setWaves(0, 0, 0, 0, 101));
        due.noPlace("setWaves, other 4 ahead of detune 65", () -> m.setWaves(0, 0, 4, 65, 101));
        due.same("nothing is changed", m.setWaves(0, 0, 0, 0, 0), 0);
    }

    private static void wrongEnvelopes() {
        Melodeon m = new Melodeon();
        due.noPlace("setEnvelope, instrument -1", () -> m.setEnvelope(-1, 1, 1, 7, 1));
        due.noPlace("setEnvelope, instrument 4", () -> m.setEnvelope(4, 1, 1, 7, 1));
        due.noArgument("setEnvelope, attack 0", () -> m.setEnvelope(0, 0, 1, 7, 1));
        due.noArgument("setEnvelope, attack 401", () -> m.setEnvelope(0, 401, 1, 7, 1));
        due.noArgument("setEnvelope, decay 0", () -> m.setEnvelope(0, 1, 0, 7, 1));
        due.noArgument("setEnvelope, decay 401", () -> m.setEnvelope(0, 1, 401, 7, 1));
        due.noArgument("setEnvelope, sustain -1", () -> m.setEnvelope(0, 1, 1, -1, 1));
        due.noArgument("setEnvelope, sustain 1001", () -> m.setEnvelope(0, 1, 1, 1001, 1));
        due.noArgument("setEnvelope, release 0", () -> m.setEnvelope(0, 1, 1, 7, 0));
        due.noArgument("setEnvelope, release 401", () -> m.setEnvelope(0, 1, 1, 7, 401));
        due.noPlace("setEnvelope, instrument ahead of attack", () -> m.setEnvelope(4, 0, 0, -1, 0));
        due.same("nothing is changed", m.setEnvelope(0, 1, 1, 1, 1), 1000);
    }

    private static void wrongFilters() {
        Melodeon m = new Melodeon();
        due.noPlace("setFilter, instrument -1", () -> m.setFilter(-1, 7, 16));
        due.noPlace("setFilter, instrument 4", () -> m.setFilter(4, 7, 16));
        due.noArgument("setFilter, cutoff 0", () -> m.setFilter(0, 0, 16));
        due.noArgument("setFilter, cutoff 129", () -> m.setFilter(0, 129, 16));
        due.noArgument("setFilter, damping 15", () -> m.setFilter(0, 7, 15));
        due.noArgument("setFilter, damping 257", () -> m.setFilter(0, 7, 257));
        due.noPlace("setFilter, instrument ahead of cutoff", () -> m.setFilter(4, 0, 0));
        due.same("nothing is changed", m.setFilter(0, 1, 16), 128);
    }

    private static void wrongVibratos() {
        Melodeon m = new Melodeon();
        due.noPlace("setVibrato, instrument -1", () -> m.setVibrato(-1, 7, 8));
        due.noPlace("setVibrato, instrument 4", () -> m.setVibrato(4, 7, 8));
        due.noArgument("setVibrato, depth -1", () -> m.setVibrato(0, -1, 8));
        due.noArgument("setVibrato, depth 65", () -> m.setVibrato(0, 65, 8));
        due.noArgument("setVibrato, period 7", () -> m.setVibrato(0, 7, 7));
        due.noArgument("setVibrato, period 0", () -> m.setVibrato(0, 7, 0));
        due.noArgument("setVibrato, period 256", () -> m.setVibrato(0, 7, 256));
        due.noPlace("setVibrato, instrument ahead of depth", () -> m.setVibrato(4, 65, 0));
        due.same("nothing is changed", m.setVibrato(0, 0, 8), 0);
    }

    /** Behind the first sample BAND is o * 128 / 256, so it shows what the waves gave. */
    private static int bandOfFirst(int one, int other, int mix) {
        Melodeon m = new Melodeon();
        m.setWaves(2, one, other, 0, mix);
        m.begin(2, 0, 127);
        m.sample();
        return m.ofVoice(0, 8);
    }

    private static void mixes() {
        due.same("saw alone", bandOfFirst(0, 1, 0), -496);
        due.same("square alone, as the second", bandOfFirst(0, 1, 100), 500);
        due.same("triangle alone", bandOfFirst(2, 1, 0), -500);
        due.same("drawn alone", bandOfFirst(3, 1, 0), 0);
        due.same("square and a quarter of saw: 502", bandOfFirst(1, 0, 25), 251);
        due.same("saw and 1 of square: -972.08, cut towards 0", bandOfFirst(0, 1, 1), -486);
        due.same("half and half: 4", bandOfFirst(0, 1, 50), 2);
        due.same("saw and 49 of square: -15.92, cut to -15, half of it to -7", bandOfFirst(0, 1, 49), -7);
    }

    private static void detunes() {
        Melodeon m = new Melodeon();
        m.setWaves(1, 1, 0, 64, 0);
        m.begin(1, 47, 127);
        m.sample();
        due.same("first phase", m.ofVoice(0, 5), 3864);
        due.same("second phase", m.ofVoice(0, 6), 3928);
        m.run(16);
        due.same("first phase behind a turn", m.ofVoice(0, 5), 17 * 3864 - 65536);
        due.same("second phase behind a turn", m.ofVoice(0, 6), 17 * 3928 - 65536);
        m.setWaves(1, 1, 0, -64, 0);
        m.begin(1, 0, 127);
        m.run(2);
        due.same("first phase, pitch 0", m.ofVoice(1, 5), 512);
        due.same("second phase, detuned down", m.ofVoice(1, 6), 384);
        m.setWaves(1, 1, 0, 0, 0);
        m.begin(1, 36, 127);
        m.run(31);
        due.same("phase 31 * 2048", m.ofVoice(2, 5), 63488);
        m.sample();
        due.same("65536 is 0", m.ofVoice(2, 5), 0);
    }

    private static void toldAsItSounds() {
        Melodeon m = new Melodeon();
        m.begin(0, 0, 127);
        m.sample();
        due.same("saw", m.ofVoice(0, 8), -496);
        m.setWaves(0, 1, 1, 9, 0);
        m.sample();
        due.same("second phase counts by the instrument as it is", m.ofVoice(0, 6), 521);
        due.same("square now: LOW -248, h 1000 + 248 + 496", m.ofVoice(0, 8), -496 + 872);
    }

    private static void level(Melodeon m, int state, int level) {
        m.sample();
        due.same("state with the level " + level, m.ofVoice(0, 0), state);
        due.same("level in the state " + state, m.ofVoice(0, 1), level);
    }

    private static void levels() {
        Melodeon m = new Melodeon();
        m.setEnvelope(0, 3, 4, 500, 6);
        m.begin(0, 0, 127);
        due.same("state", m.ofVoice(0, 0), 1);
        level(m, 1, 333333);
        level(m, 1, 666666);
        level(m, 1, 999999);
        level(m, 2, 1000000);
        level(m, 2, 874999);
        level(m, 2, 749998);
        level(m, 2, 624997);
        level(m, 3, 500000);
        level(m, 3, 500000);
        m.end(0);
        level(m, 4, 333334);
        level(m, 4, 166668);
        level(m, 4, 2);
        level(m, 0, 0);
        level(m, 0, 0);
        m.setEnvelope(0, 1, 1, 1000, 1);
        m.begin(0, 0, 127);
        level(m, 2, 1000000);
        level(m, 3, 1000000);
        m.end(0);
        level(m, 0, 0);
        m.setEnvelope(0, 1, 2, 0, 2);
        m.begin(0, 0, 127);
        level(m, 2, 1000000);
        level(m, 2, 499999);
        level(m, 3, 0);
        level(m, 3, 0);
        due.same("a level of 0 in sustain sounds", m.sounding(), 1);
        m.end(0);
        level(m, 0, 0);
        m.begin(0, 0, 127);
        m.sample();
        m.end(0);
        level(m, 4, 500000);
        level(m, 0, 0);
    }

    private static void levelsToTheDot() {
        Melodeon m = new Melodeon();
        m.setEnvelope(0, 1, 41, 999, 3);
        m.begin(0, 0, 127);
        m.run(39);
        level(m, 2, 999025);
        level(m, 3, 999000);
        m.setEnvelope(0, 1, 1, 1000, 3);
        m.sample();
        m.end(0);
        level(m, 4, 666667);
        level(m, 4, 333334);
        level(m, 4, 1);
        level(m, 0, 0);
        Melodeon first = new Melodeon();
        first.begin(0, 0, 127);
        level(first, 1, 100000);
        first.run(8);
        level(first, 2, 1000000);
        level(first, 3, 1000000);
        first.end(0);
        level(first, 4, 900000);
        first.run(8);
        level(first, 0, 0);
    }

    private static void levelsToldOnTheWay() {
        Melodeon m = new Melodeon();
        m.setEnvelope(0, 2, 100, 500, 10);
        m.begin(0, 0, 127);
        level(m, 1, 500000);
        m.setEnvelope(0, 10, 100, 500, 10);
        level(m, 1, 600000);
        m.setEnvelope(0, 1, 100, 500, 10);
        level(m, 2, 1000000);
        level(m, 2, 994999);
        m.setEnvelope(0, 1, 100, 999, 10);
        level(m, 3, 999000);
        m.setEnvelope(0, 1, 100, 250, 10);
        level(m, 3, 250000);
        m.setEnvelope(0, 1, 100, 800, 10);
        level(m, 3, 800000);
        m.end(0);
        level(m, 4, 700000);
        m.setEnvelope(0, 1, 100, 800, 2);
        level(m, 4, 200000);
        m.begin(1, 0, 127);
        due.same("the other one has the voice 1", m.ofVoice(1, 0), 1);
        m.end(1);
        level(m, 0, 0);
        due.same("from 0 in release it is free", m.ofVoice(1, 0), 0);
        m.setEnvelope(0, 1, 1, 900, 1);
        m.begin(0, 0, 127);
        level(m, 2, 1000000);
        m.setEnvelope(0, 1, 1, 1000, 1);
        level(m, 3, 1000000);
    }

    private static void lowAndBand(Melodeon m, int low, int band) {
        m.sample();
        due.same("low", m.ofVoice(0, 7), low);
        due.same("band", m.ofVoice(0, 8), band);
    }

    private static void filters() {
        Melodeon m = Sounds.flat(1000);
        m.begin(0, 0, 127);
        lowAndBand(m, 0, 500);
        lowAndBand(m, 250, 625);
        lowAndBand(m, 562, 532);
        lowAndBand(m, 828, 352);
        Melodeon down = Sounds.flat(-1000);
        down.begin(0, 0, 127);
        lowAndBand(down, 0, -500);
        lowAndBand(down, -250, -625);
        lowAndBand(down, -562, -532);
        Melodeon dull = Sounds.flat(1000);
        dull.setFilter(0, 100, 50);
        dull.begin(0, 0, 127);
        lowAndBand(dull, 0, 390);
        lowAndBand(dull, 152, 691);
        lowAndBand(dull, 421, 864);
        dull.setFilter(0, 1, 16);
        lowAndBand(dull, 424, 866);
    }

    /** The square of this pitch rings with the filter, so that LOW and BAND come to their limits on both sides. */
    private static void filterLimits() {
        Melodeon m = new Melodeon();
        Melodeon ear = new Melodeon();
        m.setWaves(0, 1, 1, 0, 0);
        m.setFilter(0, 128, 16);
        m.begin(0, 33, 127);
        int low = 0;
        int band = 0;
        int[] atLimits = new int[4];
        for (int i = 0; i < 150; i++) {
            int o = ear.wave(1, i * 1724 % 65536);
            low = Math.max(-4000, Math.min(4000, low + 128 * band / 256));
            band = Math.max(-4000, Math.min(4000, band + 128 * (o - low - 16 * band / 256) / 256));
            m.sample();
            due.same("low " + i, m.ofVoice(0, 7), low);
            due.same("band " + i, m.ofVoice(0, 8), band);
            atLimits[0] += low == 4000 ? 1 : 0;
            atLimits[1] += low == -4000 ? 1 : 0;
            atLimits[2] += band == 4000 ? 1 : 0;
            atLimits[3] += band == -4000 ? 1 : 0;
        }
        for (int limit = 0; limit < 4; limit++) {
            due.yes("it came to the limit " + limit, atLimits[limit] > 0);
        }
    }

    private static void vibratos() {
        Melodeon m = new Melodeon();
        m.setVibrato(0, 64, 8);
        m.setWaves(0, 0, 0, 1, 0);
        m.begin(0, 0, 127);
        int[] added = {-64, -32, 0, 32, 64, 32, 0, -32, -64};
        int phase = 0;
        for (int i = 0; i < added.length; i++) {
            m.sample();
            phase += 256 + added[i];
            due.same("phase " + i, m.ofVoice(0, 5), phase);
            due.same("second phase " + i, m.ofVoice(0, 6), phase + i + 1);
        }
        Melodeon slow = new Melodeon();
        slow.setVibrato(0, 64, 255);
        slow.begin(0, 0, 127);
        slow.run(2);
        due.same("65536 / 255 is 257, there it is -985, so -63.04", slow.ofVoice(0, 5), 256 - 64 + 256 - 63);
        slow.setVibrato(0, 10, 255);
        slow.sample();
        due.same("514: -969, so -9.69", slow.ofVoice(0, 5), 256 - 64 + 256 - 63 + 256 - 9);
        Melodeon middling = new Melodeon();
        middling.setVibrato(0, 49, 64);
        middling.begin(0, 0, 127);
        middling.run(2);
        due.same("-938 at 1024, so -45.96", middling.ofVoice(0, 5), 256 - 49 + 256 - 45);
        Melodeon late = new Melodeon();
        late.run(11);
        late.setVibrato(0, 64, 10);
        late.begin(0, 0, 127);
        late.sample();
        due.same("the clock is 11: phase 6553 of the period, -601 there, so -38.46", late.ofVoice(0, 5), 256 - 38);
    }

    private static void gains() {
        Melodeon m = Sounds.flat(1000);
        m.begin(0, 0, 127);
        m.run(2);
        due.same("250 * 64 / 16", m.heard(0), 1000);
        m.setGain(5);
        due.same("562 * 5 / 16 = 175.6", m.sample(), 175);
        m.setGain(0);
        due.same("gain 0", m.sample(), 0);
        Melodeon down = Sounds.flat(-1000);
        down.setGain(5);
        down.begin(0, 0, 127);
        due.same("-562 * 5 / 16 = -175.6", down.run(3), -175);
        Melodeon two = Sounds.flat(1000);
        two.setGain(1);
        two.begin(0, 0, 127);
        two.begin(0, 0, 127);
        due.same("the sum is cut, not each: 1124 / 16 = 70.25", two.run(3), 70);
        Melodeon three = Sounds.flat(1000);
        three.setGain(3);
        three.begin(0, 0, 127);
        three.begin(0, 0, 127);
        due.same("times GAIN, then / 16: 1124 * 3 / 16 = 210.75", three.run(3), 210);
    }

    private static void delays() {
        Melodeon m = Sounds.flat(1000);
        m.setDelay(2, 128, 64);
        m.begin(0, 0, 127);
        due.same("m 0", m.sample(), 0);
        due.same("m 1000", m.sample(), 1000);
        due.same("m 2248, d 0", m.sample(), 2248);
        due.same("row 0", m.inDelay(0), 1000);
        due.same("row 1", m.inDelay(1), 2248);
        due.same("m 3312, d 1000", m.sample(), 3812);
        due.same("row 0", m.inDelay(0), 2248);
        due.same("row 1", m.inDelay(1), 3562);
        m.hush();
        due.same("m 0, d 2248", m.sample(), 1124);
        due.same("m 0, d 3562", m.sample(), 1781);
        due.same("row 0", m.inDelay(0), 562);
        due.same("row 1: 890.5", m.inDelay(1), 890);
        due.same("d 562", m.sample(), 281);
        due.same("d 890", m.sample(), 445);
        m.setDelay(2, 256, 255);
        due.same("the row is 0 then", m.inDelay(0), 0);
        due.same("the row is 0 then", m.inDelay(1), 0);
        due.same("nothing comes", m.run(3), 0);
        Melodeon down = Sounds.flat(-1000);
        down.setDelay(1, 255, 3);
        down.begin(0, 0, 127);
        due.same("m -1000", down.run(2), -1000);
        due.same("m -2248, d -1000: -996.09", down.sample(), -3244);
        due.same("row: -2248 - 11.7", down.inDelay(0), -2259);
        Melodeon shorter = Sounds.flat(1000);
        shorter.setDelay(5, 0, 0);
        shorter.begin(0, 0, 127);
        shorter.run(3);
        shorter.setDelay(2, 256, 0);
        shorter.run(2);
        due.same("the first place", shorter.inDelay(0), 3312);
        due.same("the second place", shorter.inDelay(1), 4016);
        due.same("4364, and 3312 of the shorter row", shorter.sample(), 7676);
        Melodeon none = Sounds.flat(1000);
        none.setDelay(0, 256, 256);
        none.begin(0, 0, 127);
        due.same("no length, no delay", none.run(4), 3312);
        none.setDelay(3, 0, 0);
        due.same("not wet", none.run(4), 4 * none.ofVoice(0, 7));
        none.setDelay(0, 0, 0);
        none.setDelay(200, 256, 0);
        none.hush();
        due.same("an older row is gone", none.run(200), 0);
    }

    private static void delayLimits() {
        for (int sign = -1; sign <= 1; sign += 2) {
            Melodeon m = Sounds.flat(1000 * sign);
            m.setGain(256);
            m.setDelay(1, 1, 256);
            m.begin(0, 0, 127);
            m.run(60);
            due.same("the row is kept", m.inDelay(0), 100000 * sign);
            m.hush();
            due.same("and stays", m.sample(), 390 * sign);
            due.same("and stays", m.inDelay(0), 100000 * sign);
            Melodeon wet = Sounds.flat(1000 * sign);
            wet.setGain(256);
            wet.setDelay(200, 256, 0);
            wet.begin(0, 0, 127);
            wet.run(200);
            int last = 16 * wet.ofVoice(0, 7);
            due.same("all 200 are kept", wet.inDelay(199), last);
            due.same("the first one is 0", wet.inDelay(0), 0);
        }
    }

    private static void wrongGainsAndDelays() {
        Melodeon m = new Melodeon();
        due.noArgument("setGain(-1)", () -> m.setGain(-1));
        due.noArgument("setGain(257)", () -> m.setGain(257));
        due.same("nothing is changed", m.setGain(64), 64);
        m.setDelay(3, 4, 5);
        due.noArgument("setDelay, length -1", () -> m.setDelay(-1, 0, 0));
        due.noArgument("setDelay, length 201", () -> m.setDelay(201, 0, 0));
        due.noArgument("setDelay, wet -1", () -> m.setDelay(2, -1, 0));
        due.noArgument("setDelay, wet 257", () -> m.setDelay(2, 257, 0));
        due.noArgument("setDelay, back -1", () -> m.setDelay(2, 0, -1));
        due.noArgument("setDelay, back 257", () -> m.setDelay(2, 0, 257));
        due.noPlace("the length stays", () -> m.inDelay(3));
        due.same("the length stays", m.setDelay(0, 0, 0), 3);
    }
}
