/** Promises 14 to 18: write, setTrack, setTempo, play, stop; with 31, 32 and 33. */
public final class TracksTest {
    private static final Due due = new Due("TracksTest");

    public static void main(String[] args) {
        writes();
        wrongWrites();
        trackInstruments();
        tempos();
        wrongTempos();
        lengthsOfSteps();
        temposOnTheWay();
        plays();
        playsAnew();
        stops();
        notesBegin();
        whatIsWrittenTillThen();
        gates();
        gatesEndAheadOfBegins();
        gatesOfTakenVoices();
        gatesGoOn();
        due.end();
    }

    private static void writes() {
        Melodeon m = new Melodeon();
        for (int track = 0; track < 3; track++) {
            for (int step = 0; step < 8; step++) {
                due.same("pitch at first", m.ofStep(track, step, 0), -1);
                due.same("force at first", m.ofStep(track, step, 1), 0);
                due.same("gate at first", m.ofStep(track, step, 2), 0);
                due.same("write", m.write(track, step, track * 8 + step, 100 + step, 1 + track), -1);
            }
        }
        for (int track = 0; track < 3; track++) {
            for (int step = 0; step < 8; step++) {
                due.same("pitch", m.ofStep(track, step, 0), track * 8 + step);
                due.same("force", m.ofStep(track, step, 1), 100 + step);
                due.same("gate", m.ofStep(track, step, 2), 1 + track);
            }
        }
        due.same("write the greatest", m.write(2, 7, 47, 127, 200), 23);
        due.same("write the least", m.write(2, 7, 0, 1, 1), 47);
        due.same("write none, force and gate are not looked at", m.write(2, 7, -1, 999, -999), 0);
        due.same("pitch of none", m.ofStep(2, 7, 0), -1);
        due.same("force of none", m.ofStep(2, 7, 1), 0);
        due.same("gate of none", m.ofStep(2, 7, 2), 0);
        due.same("write none again", m.write(2, 7, -1, 5, 5), -1);
        due.same("force of none", m.ofStep(2, 7, 1), 0);
        due.same("the step before", m.ofStep(2, 6, 0), 22);
    }

    private static void wrongWrites() {
        Melodeon m = new Melodeon();
        m.write(0, 0, 5, 6, 7);
        long before = m.digest();
        due.noPlace("write, track -1", () -> m.write(-1, 0, 1, 1, 1));
        due.noPlace("write, track 3", () -> m.write(3, 0, 1, 1, 1));
        due.noPlace("write, step -1", () -> m.write(0, -1, 1, 1, 1));
        due.noPlace("write, step 8", () -> m.write(0, 8, 1, 1, 1));
        due.noArgument("write, pitch -2", () -> m.write(0, 0, -2, 1, 1));
        due.noArgument("write, pitch 48", () -> m.write(0, 0, 48, 1, 1));
        due.noArgument("write, force 0", () -> m.write(0, 0, 1, 0, 1));
        due.noArgument("write, force 128", () -> m.write(0, 0, 1, 128, 1));
        due.noArgument("write, gate 0", () -> m.write(0, 0, 1, 1, 0));
        due.noArgument("write, gate 201", () -> m.write(0, 0, 1, 1, 201));
        due.noPlace("write, step ahead of pitch", () -> m.write(0, 8, 48, 0, 0));
        due.noPlace("write, track ahead of pitch", () -> m.write(3, 0, -1, 0, 0));
        due.same("nothing is changed", m.digest(), before);
    }

    private static void trackInstruments() {
        Melodeon m = new Melodeon();
        for (int track = 0; track < 3; track++) {
            due.same("instrument at first", m.setTrack(track, 3 - track), 0);
        }
        for (int track = 0; track < 3; track++) {
            due.same("instrument before", m.setTrack(track, track), 3 - track);
        }
        due.noPlace("setTrack, track -1", () -> m.setTrack(-1, 0));
        due.noPlace("setTrack, track 3", () -> m.setTrack(3, 0));
        due.noPlace("setTrack, instrument -1", () -> m.setTrack(2, -1));
        due.noPlace("setTrack, instrument 4", () -> m.setTrack(2, 4));
        due.same("nothing is changed", m.setTrack(2, 0), 2);
    }

    private static void tempos() {
        Melodeon m = new Melodeon();
        due.same("tempo at first", m.setTempo(200, 199), 20);
        due.same("tempo before", m.setTempo(1, 0), 200);
        due.same("tempo before", m.setTempo(5, 4), 1);
        due.same("tempo before", m.setTempo(5, 0), 5);
    }

    private static void wrongTempos() {
        Melodeon m = new Melodeon();
        due.noArgument("setTempo(0, 0)", () -> m.setTempo(0, 0));
        due.noArgument("setTempo(201, 0)", () -> m.setTempo(201, 0));
        due.noArgument("setTempo(-5, -6)", () -> m.setTempo(-5, -6));
        due.noArgument("setTempo(5, 5)", () -> m.setTempo(5, 5));
        due.noArgument("setTempo(5, -1)", () -> m.setTempo(5, -1));
        due.noArgument("setTempo(least, 0)", () -> m.setTempo(Integer.MIN_VALUE, 0));
        due.same("nothing is changed", m.setTempo(20, 0), 20);
    }

    private static void stepAfter(Melodeon m, int samples, int step) {
        m.run(samples);
        due.same("step behind " + samples, m.step(), step);
    }

    private static void lengthsOfSteps() {
        Melodeon m = new Melodeon();
        m.play(0);
        stepAfter(m, 19, 0);
        stepAfter(m, 1, 1);
        stepAfter(m, 19, 1);
        stepAfter(m, 1, 2);
        Melodeon swung = new Melodeon();
        swung.setTempo(3, 2);
        swung.play(6);
        int[] lengths = {5, 1, 5, 1, 5, 1, 5, 1, 5, 1};
        for (int i = 0; i < lengths.length; i++) {
            for (int done = 0; done < lengths[i]; done++) {
                due.same("step " + i + " ahead of " + done, swung.step(), (6 + i) % 8);
                swung.sample();
            }
        }
        due.same("step", swung.step(), 0);
        Melodeon quick = new Melodeon();
        quick.setTempo(1, 0);
        quick.play(0);
        for (int i = 0; i < 20; i++) {
            due.same("step", quick.step(), i % 8);
            quick.sample();
        }
        Melodeon slow = new Melodeon();
        slow.setTempo(200, 199);
        slow.play(4);
        slow.run(200);
        stepAfter(slow, 198, 4);
        stepAfter(slow, 1, 5);
        stepAfter(slow, 1, 6);
    }

    private static void temposOnTheWay() {
        Melodeon m = new Melodeon();
        m.setTempo(6, 2);
        m.play(0);
        m.sample();
        due.same("tempo", m.setTempo(4, 1), 6);
        due.same("as it was set last", m.setTempo(3, 1), 4);
        stepAfter(m, 6, 0);
        stepAfter(m, 1, 1);
        stepAfter(m, 1, 1);
        stepAfter(m, 1, 2);
        m.setTempo(7, 0);
        stepAfter(m, 6, 2);
        stepAfter(m, 1, 3);
        Melodeon early = new Melodeon();
        early.setTempo(5, 0);
        early.play(0);
        early.setTempo(2, 0);
        stepAfter(early, 2, 1);
    }

    private static void plays() {
        Melodeon m = new Melodeon();
        due.no("isPlaying at first", m.isPlaying());
        due.same("step at first", m.step(), -1);
        due.same("stop at first", m.stop(), -1);
        due.no("play", m.play(7));
        due.yes("isPlaying", m.isPlaying());
        due.same("step", m.step(), 7);
        due.yes("play again", m.play(0));
        due.same("step", m.step(), 0);
        due.noPlace("play(-1)", () -> m.play(-1));
        due.noPlace("play(8)", () -> m.play(8));
        due.same("step", m.step(), 0);
        m.stop();
        due.noPlace("play(8)", () -> m.play(8));
        due.no("isPlaying", m.isPlaying());
    }

    private static void playsAnew() {
        Melodeon m = new Melodeon();
        m.setTempo(5, 0);
        m.write(0, 2, 30, 100, 100);
        m.play(2);
        m.run(3);
        due.same("sounding", m.sounding(), 1);
        due.yes("play", m.play(2));
        due.same("nothing begins yet", m.sounding(), 1);
        m.sample();
        due.same("the note has begun again", m.sounding(), 2);
        stepAfter(m, 3, 2);
        stepAfter(m, 1, 3);
        m.run(2);
        m.play(3);
        stepAfter(m, 4, 3);
        stepAfter(m, 1, 4);
    }

    private static void stops() {
        Melodeon m = new Melodeon();
        m.setTempo(5, 0);
        m.write(0, 1, 30, 100, 100);
        m.play(0);
        m.run(5);
        due.same("stop: the step that would begin", m.stop(), 1);
        due.same("stop again", m.stop(), -1);
        due.same("step", m.step(), -1);
        due.no("isPlaying", m.isPlaying());
        m.run(10);
        due.same("nothing has begun", m.sounding(), 0);
        m.play(1);
        m.run(2);
        due.same("stop: the step that is on", m.stop(), 1);
        m.run(10);
        due.same("its note goes on", m.ofVoice(0, 0), 3);
        due.no("play", m.play(1));
        m.run(4);
        due.same("from the beginning of the step", m.step(), 1);
        due.same("the note has begun again", m.ofVoice(1, 3), 30);
        due.same("the clock goes on", m.clock(), 31);
    }

    private static void notesBegin() {
        Melodeon m = new Melodeon();
        m.setTempo(2, 0);
        m.write(2, 0, 10, 30, 9);
        m.write(0, 0, 11, 31, 8);
        m.write(1, 1, 12, 32, 7);
        m.setTrack(0, 3);
        m.setTrack(1, 1);
        m.setTrack(2, 2);
        m.play(0);
        due.same("none begins yet", m.sounding(), 0);
        m.sample();
        int[][] facts = {{1, 100000, 3, 11, 31, 483, 0, 0, 0, 7}, {1, 100000, 2, 10, 30, 456, 0, 0, 0, 8}};
        for (int voice = 0; voice < 2; voice++) {
            for (int what = 0; what < 10; what++) {
                if (what < 6 || what == 9) {
                    due.same("fact " + what + " of " + voice, m.ofVoice(voice, what), facts[voice][what]);
                }
            }
        }
        due.same("sounding", m.sounding(), 2);
        m.sample();
        due.same("sounding", m.sounding(), 2);
        m.sample();
        due.same("sounding", m.sounding(), 3);
        due.same("pitch", m.ofVoice(2, 3), 12);
        due.same("gate", m.ofVoice(2, 9), 6);
        m.run(14);
        due.same("a round later", m.ofVoice(0, 3), 11);
        due.same("taken", m.taken(), 0);
        Melodeon crowd = new Melodeon();
        for (int voice = 0; voice < 3; voice++) {
            crowd.begin(0, 1, 1);
        }
        for (int track = 0; track < 3; track++) {
            crowd.write(track, 0, 20 + track, 5, 5);
        }
        crowd.play(0);
        crowd.sample();
        due.same("the track 0 has the free one", crowd.ofVoice(3, 3), 20);
        due.same("the track 1 has the oldest", crowd.ofVoice(0, 3), 21);
        due.same("the track 2 has the next", crowd.ofVoice(1, 3), 22);
        due.same("taken", crowd.taken(), 2);
        due.same("next", crowd.nextVoice(), 2);
    }

    private static void whatIsWrittenTillThen() {
        Melodeon m = new Melodeon();
        m.setTempo(3, 0);
        m.play(0);
        m.run(3);
        m.write(0, 1, 40, 100, 2);
        m.setTrack(0, 2);
        m.sample();
        due.same("written behind the last sample of the step ahead", m.ofVoice(0, 3), 40);
        due.same("with the instrument set", m.ofVoice(0, 2), 2);
        m.write(1, 1, 41, 100, 2);
        m.run(2);
        due.same("written behind the first one it does not count", m.sounding(), 1);
        m.write(0, 1, -1, 0, 0);
        m.setTrack(0, 1);
        due.same("a note that is on keeps its instrument", m.ofVoice(0, 2), 2);
        m.hush();
        m.run(21);
        m.sample();
        due.same("next time the track 1 alone has a note there", m.ofVoice(0, 3), 41);
    }

    private static void gates() {
        Melodeon m = new Melodeon();
        m.setEnvelope(0, 1, 1, 1000, 5);
        m.write(0, 0, 5, 100, 3);
        m.write(1, 0, 6, 100, 1);
        m.play(0);
        m.sample();
        due.same("2 are left", m.ofVoice(0, 9), 2);
        due.same("0 are left", m.ofVoice(1, 9), 0);
        due.same("it has not ended", m.ofVoice(1, 0), 2);
        m.sample();
        due.same("1 is left", m.ofVoice(0, 9), 1);
        due.same("it has ended ahead of this sample", m.ofVoice(1, 0), 4);
        due.same("by one step of release", m.ofVoice(1, 1), 800000);
        due.same("no gate behind that", m.ofVoice(1, 9), -1);
        m.sample();
        due.same("0 are left", m.ofVoice(0, 9), 0);
        due.same("in sustain", m.ofVoice(0, 0), 3);
        m.sample();
        due.same("released", m.ofVoice(0, 0), 4);
        due.same("level", m.ofVoice(0, 1), 800000);
        due.same("no gate", m.ofVoice(0, 9), -1);
        m.sample();
        due.same("no gate", m.ofVoice(0, 9), -1);
        Melodeon longest = new Melodeon();
        longest.write(0, 0, 5, 100, 200);
        longest.play(0);
        longest.sample();
        longest.stop();
        longest.run(198);
        due.same("1 is left", longest.ofVoice(0, 9), 1);
        longest.sample();
        due.same("0 are left", longest.ofVoice(0, 9), 0);
        due.same("in sustain", longest.ofVoice(0, 0), 3);
        longest.sample();
        due.same("released", longest.ofVoice(0, 0), 4);
    }

    private static void gatesEndAheadOfBegins() {
        Melodeon m = new Melodeon();
        m.setTempo(2, 0);
        m.begin(0, 1, 100);
        m.begin(0, 2, 100);
        m.begin(0, 3, 100);
        m.write(0, 0, 20, 100, 2);
        m.write(0, 1, 21, 100, 9);
        m.play(0);
        m.run(2);
        due.same("all sound", m.sounding(), 4);
        due.same("as of now it would be the oldest", m.nextVoice(), 0);
        m.sample();
        due.same("the one whose gate is over was released first", m.ofVoice(3, 3), 21);
        due.same("and is in its attack", m.ofVoice(3, 0), 1);
        due.same("with its level, and one step more", m.ofVoice(3, 1), 300000);
        due.same("taken", m.taken(), 1);
        Melodeon two = new Melodeon();
        two.setTempo(1, 0);
        two.begin(0, 1, 100);
        two.begin(0, 2, 100);
        two.write(0, 0, 20, 100, 1);
        two.write(1, 0, 21, 100, 1);
        two.write(0, 1, 22, 100, 9);
        two.write(1, 1, 23, 100, 9);
        two.play(0);
        two.run(2);
        due.same("both are released, then both are taken", two.ofVoice(2, 3), 22);
        due.same("both are released, then both are taken", two.ofVoice(3, 3), 23);
    }

    private static void gatesOfTakenVoices() {
        Melodeon m = new Melodeon();
        m.write(0, 0, 20, 100, 3);
        m.play(0);
        m.sample();
        m.stop();
        m.begin(0, 1, 100);
        m.begin(0, 2, 100);
        m.begin(0, 3, 100);
        due.same("it is taken", m.begin(0, 4, 100), 0);
        due.same("a note that is begun has no gate", m.ofVoice(0, 9), -1);
        m.run(5);
        due.same("and does not end", m.ofVoice(0, 0), 1);
        Melodeon other = new Melodeon();
        other.setTempo(1, 0);
        for (int step = 0; step < 5; step++) {
            other.write(0, step, step, 100, step == 0 ? 5 : 50);
        }
        other.play(0);
        other.run(5);
        due.same("it is taken by a track", other.ofVoice(0, 3), 4);
        due.same("and has the gate of that", other.ofVoice(0, 9), 49);
        other.run(3);
        due.same("the gate that it had is none any more", other.ofVoice(0, 0), 1);
    }

    private static void gatesGoOn() {
        Melodeon m = new Melodeon();
        m.setEnvelope(0, 1, 1, 1000, 2);
        m.write(0, 0, 20, 100, 6);
        m.play(0);
        m.run(2);
        m.stop();
        m.end(0);
        due.same("ended by hand", m.ofVoice(0, 9), 4);
        m.sample();
        due.same("in release", m.ofVoice(0, 0), 4);
        due.same("it goes on", m.ofVoice(0, 9), 3);
        m.sample();
        due.same("free", m.ofVoice(0, 0), 0);
        due.same("it goes on", m.ofVoice(0, 9), 2);
        m.run(2);
        due.same("0 are left", m.ofVoice(0, 9), 0);
        m.sample();
        due.same("behind that", m.ofVoice(0, 9), -1);
        due.same("still free", m.ofVoice(0, 0), 0);
        m.write(0, 0, 20, 100, 4);
        m.play(0);
        m.sample();
        m.hush();
        m.stop();
        m.begin(0, 3, 100);
        m.run(10);
        due.same("a gate that was hushed ends nothing", m.ofVoice(0, 0), 3);
    }
}
