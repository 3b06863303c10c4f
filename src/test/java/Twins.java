import java.util.ArrayList;
import java.util.List;
import java.util.function.Consumer;

/** Two objects with the same past: one is asked for what it must refuse, and then both must tell the same story. */
final class Twins {
    private static final int VOICE_OF_A_GATE = 2;

    private Twins() {
    }

    /** Due is an IndexOutOfBoundsException, and nothing changed. */
    static void noPlace(Due due, String call, Consumer<Melodeon> made) {
        refused(due, call, made, IndexOutOfBoundsException.class);
    }

    /** Due is an IllegalArgumentException, and nothing changed. */
    static void noArgument(Due due, String call, Consumer<Melodeon> made) {
        refused(due, call, made, IllegalArgumentException.class);
    }

    private static void refused(Due due, String call, Consumer<Melodeon> made, Class<?> thrown) {
        Melodeon asked = past();
        due.refused(call, () -> made.accept(asked), thrown);
        due.same("behind " + call, story(asked), story(past()));
    }

    /** What changes nothing though it answers. */
    static void unchanged(Due due, String call, Consumer<Melodeon> made) {
        Melodeon asked = past();
        made.accept(asked);
        due.same("behind " + call, story(asked), story(past()));
    }

    /** The numbers just beyond a range, and those as far from it as can be. */
    static int[] outside(int least, int most) {
        return new int[] {Integer.MIN_VALUE, least - 1, most + 1, Integer.MAX_VALUE};
    }

    /**
     * Nothing is as it was at first: the third sample of a step comes next, two notes have gates, one of which is
     * ended already, some samples were clipped, and the counts of what was heard are neither 0 nor of all.
     */
    static Melodeon past() {
        Melodeon m = Sounds.busy();
        for (int k = 0; k < 32; k++) {
            m.draw(k, 29 * k * (k % 3 - 1) + 90);
        }
        m.setWaves(3, 2, 0, -33, 70);
        m.setEnvelope(3, 11, 13, 450, 17);
        m.setFilter(0, 110, 120);
        m.setFilter(2, 70, 60);
        m.setFilter(3, 100, 90);
        m.setVibrato(1, 21, 9);
        m.setVibrato(2, 11, 30);
        m.setVibrato(3, 44, 55);
        m.setGain(255);
        m.setTrack(0, 3);
        m.setTempo(9, 2);
        m.run(25);
        m.reset();
        m.setDelay(1, 256, 256);
        m.run(9);
        m.setDelay(5, 200, 150);
        m.run(11);
        m.write(0, 5, 33, 70, 40);
        m.write(2, 5, 22, 50, 30);
        m.begin(2, 17, 110);
        m.play(5);
        m.run(2);
        m.end(VOICE_OF_A_GATE);
        return m;
    }

    /** All that can be asked, now and as it goes on: two objects that differ by anything told tell different ones. */
    static List<String> story(Melodeon m) {
        List<String> told = new ArrayList<>();
        answersNow(m, told);
        for (int i = 0; i < 12; i++) {
            told.add("the sample " + m.sample() + " at the step " + m.step() + ", digest " + m.digest());
        }
        told.add("reset() " + m.reset());
        told.add("run(9) " + m.run(9));
        told.add("peak() " + m.peak() + ", loudness() " + m.loudness());
        for (int note = 0; note < 5; note++) {
            told.add("begin(1, 9, 99) " + m.begin(1, 9, 99));
        }
        told.add("stop() " + m.stop());
        for (int instrument = 0; instrument < 4; instrument++) {
            noteOf(m, instrument, told);
        }
        tracks(m, told);
        lastAnswers(m, told);
        return told;
    }

    private static void answersNow(Melodeon m, List<String> told) {
        told.add("digest() " + m.digest());
        told.add("clock() " + m.clock());
        told.add("loudness() " + m.loudness());
        told.add("isPlaying() " + m.isPlaying() + ", step() " + m.step());
        for (int back = 0; back < 64; back++) {
            told.add("heard(" + back + ") " + m.heard(back));
        }
        for (int k = 0; k < 32; k++) {
            told.add("wave(3, " + k * 2048 + ") " + m.wave(3, k * 2048));
        }
        told.add("wouldPeak(50) " + m.wouldPeak(50));
        told.add("silentIn(50) " + m.silentIn(50));
    }

    private static void noteOf(Melodeon m, int instrument, List<String> told) {
        m.hush();
        m.begin(instrument, 9 + 11 * instrument, 120 - 30 * instrument);
        for (int i = 0; i < 10; i++) {
            told.add("run(5) of the instrument " + instrument + ": " + m.run(5) + ", digest " + m.digest());
        }
        m.end(0);
        for (int i = 0; i < 4; i++) {
            told.add("run(4) of the instrument " + instrument + ": " + m.run(4) + ", digest " + m.digest());
        }
    }

    private static void tracks(Melodeon m, List<String> told) {
        m.hush();
        told.add("play(0) " + m.play(0));
        for (int i = 0; i < 40; i++) {
            told.add("run(2) of the tracks: " + m.run(2) + ", digest " + m.digest());
        }
    }

    private static void lastAnswers(Melodeon m, List<String> told) {
        for (int i = 0; i < 4; i++) {
            told.add("setWaves(" + i + ", 0, 0, 0, 0) " + m.setWaves(i, 0, 0, 0, 0));
            told.add("setEnvelope(" + i + ", 1, 1, 0, 1) " + m.setEnvelope(i, 1, 1, 0, 1));
            told.add("setFilter(" + i + ", 1, 16) " + m.setFilter(i, 1, 16));
            told.add("setVibrato(" + i + ", 0, 8) " + m.setVibrato(i, 0, 8));
        }
        for (int track = 0; track < 3; track++) {
            told.add("setTrack(" + track + ", 0) " + m.setTrack(track, 0));
        }
        told.add("setTempo(3, 0) " + m.setTempo(3, 0));
        told.add("setGain(0) " + m.setGain(0));
        told.add("setDelay(0, 0, 0) " + m.setDelay(0, 0, 0));
        told.add("taken() " + m.taken() + ", clipped() " + m.clipped() + ", crossings() " + m.crossings());
    }
}
