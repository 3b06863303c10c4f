/** A call that throws changes nothing: an object with all wrong calls between goes on like one without them. */
public final class RefusalTest {
    private static final Due due = new Due("RefusalTest");

    public static void main(String[] args) {
        Runnable[] none = refused(Sounds.busy());
        for (int i = 0; i < none.length; i++) {
            Melodeon tried = Sounds.busy();
            Runnable call = refused(tried)[i];
            boolean threw = false;
            try {
                call.run();
            } catch (IndexOutOfBoundsException | IllegalArgumentException thrown) {
                threw = true;
            }
            due.yes("call " + i + " throws", threw);
            due.same("what comes behind the call " + i, Sounds.future(tried), Sounds.future(Sounds.busy()));
            // the settings once more by what they answer, also of what does not sound
            Melodeon other = Sounds.busy();
            for (int instrument = 0; instrument < 4; instrument++) {
                due.same("mix", tried.setWaves(instrument, 0, 0, 0, 0), other.setWaves(instrument, 0, 0, 0, 0));
                due.same("depth", tried.setVibrato(instrument, 0, 8), other.setVibrato(instrument, 0, 8));
            }
            due.same("tempo", tried.setTempo(3, 0), other.setTempo(3, 0));
            due.same("track", tried.setTrack(2, 0), other.setTrack(2, 0));
        }
        due.end();
    }

    /** Each has but one wrong number, the last that is looked at where it can be, and the right ones are new. */
    private static Runnable[] refused(Melodeon m) {
        return new Runnable[] {
            () -> m.draw(3, 1001), () -> m.draw(32, 5), () -> m.wave(4, 0), () -> m.wave(0, 65536),
            () -> m.stride(48),
            () -> m.setWaves(0, 2, 0, 9, 101), () -> m.setWaves(0, 2, 0, 65, 11), () -> m.setWaves(0, 2, 4, 9, 11),
            () -> m.setWaves(4, 2, 0, 9, 11),
            () -> m.setEnvelope(0, 50, 60, 70, 401), () -> m.setEnvelope(0, 50, 60, 1001, 80),
            () -> m.setEnvelope(0, 50, 401, 70, 80), () -> m.setEnvelope(4, 50, 60, 70, 80),
            () -> m.setEnvelope(0, 401, 60, 70, 80),
            () -> m.setFilter(0, 50, 257), () -> m.setFilter(0, 129, 50), () -> m.setFilter(4, 50, 50),
            () -> m.setVibrato(0, 50, 256), () -> m.setVibrato(0, 65, 50), () -> m.setVibrato(4, 50, 50),
            () -> m.setGain(257), () -> m.setGain(-1),
            () -> m.setDelay(9, 10, 257), () -> m.setDelay(9, 257, 11), () -> m.setDelay(201, 10, 11),
            () -> m.begin(0, 5, 128), () -> m.begin(0, 48, 5), () -> m.begin(4, 5, 5),
            () -> m.end(4), () -> m.end(-1),
            () -> m.write(0, 0, 9, 10, 201), () -> m.write(0, 0, 9, 128, 11), () -> m.write(0, 0, 48, 10, 11),
            () -> m.write(0, 8, 9, 10, 11), () -> m.write(3, 0, 9, 10, 11),
            () -> m.setTrack(0, 4), () -> m.setTrack(3, 0),
            () -> m.setTempo(9, 9), () -> m.setTempo(9, -1), () -> m.setTempo(201, 1),
            () -> m.play(8), () -> m.play(-1),
            () -> m.run(0), () -> m.run(201), () -> m.heard(64), () -> m.heard(-1),
            () -> m.ofVoice(0, 10), () -> m.ofVoice(4, 0), () -> m.ofStep(0, 0, 3), () -> m.ofStep(0, 8, 0),
            () -> m.ofStep(3, 0, 0), () -> m.inDelay(5), () -> m.inDelay(-1),
            () -> m.wouldPeak(0), () -> m.wouldPeak(201), () -> m.silentIn(0), () -> m.silentIn(201),
        };
    }
}
