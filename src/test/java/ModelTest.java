/** Long runs of all calls, told right and wrong, beside the model, answer for answer. Holds all promises, 1 to 38. */
public final class ModelTest {
    private static final int RUNS = 1200;
    /** More than so many calls an object is not promised to answer. */
    private static final int CALLS = 512;
    private static final int MOST_AT_ONCE = 9;

    interface Call {
        long make();
    }

    private static final Due due = new Due("ModelTest");
    private static Numbers numbers;
    private static Melodeon program;
    private static Model model;
    private static int run;
    private static int call;

    public static void main(String[] args) {
        for (run = 0; run < RUNS; run++) {
            numbers = new Numbers(run);
            program = new Melodeon();
            model = new Model();
            int busy = numbers.from(0, 2);
            call = 0;
            while (call <= CALLS - MOST_AT_ONCE) {
                int way = numbers.from(0, 99);
                if (way < 22) {
                    tell();
                } else if (way < 42) {
                    note(busy);
                } else if (way < 62) {
                    track();
                } else if (way < 78) {
                    makeSamples();
                } else if (way < 90) {
                    ask();
                } else {
                    askAhead();
                }
            }
        }
        due.end();
    }

    private static void both(String name, Call of, Call from) {
        call++;
        due.same("run " + run + ", call " + call + ", " + name, outcome(of), outcome(from));
    }

    private static final long THREW_PLACE = Long.MIN_VALUE;
    private static final long THREW_ARGUMENT = Long.MIN_VALUE + 1;
    private static final long THREW_OTHER = Long.MIN_VALUE + 2;

    private static long outcome(Call made) {
        try {
            return made.make();
        } catch (RuntimeException thrown) {
            if (thrown.getClass() == IndexOutOfBoundsException.class) {
                return THREW_PLACE;
            }
            return thrown.getClass() == IllegalArgumentException.class ? THREW_ARGUMENT : THREW_OTHER;
        }
    }

    /** Ramps are short for the most part: long ones seldom come to their ends. */
    private static int ramp() {
        return numbers.onceIn(4) ? numbers.near(1, 400) : numbers.near(1, 15);
    }

    private static int several() {
        return numbers.onceIn(6) ? numbers.near(1, 200) : numbers.near(1, 9);
    }

    private static void tell() {
        int i = numbers.near(0, 3);
        switch (numbers.from(0, 7)) {
            case 0 -> {
                int k = numbers.near(0, 31);
                int value = numbers.near(-1000, 1000);
                both("draw " + k + " " + value, () -> program.draw(k, value), () -> model.draw(k, value));
            }
            case 1 -> {
                int phase = numbers.near(0, 65535);
                both("wave " + i + " " + phase, () -> program.wave(i, phase), () -> model.wave(i, phase));
                int pitch = numbers.near(0, 47);
                both("stride " + pitch, () -> program.stride(pitch), () -> model.stride(pitch));
            }
            case 2 -> {
                int one = numbers.near(0, 3);
                int other = numbers.near(0, 3);
                int detune = numbers.near(-64, 64);
                int mix = numbers.near(0, 100);
                both("setWaves " + i, () -> program.setWaves(i, one, other, detune, mix),
                    () -> model.setWaves(i, one, other, detune, mix));
            }
            case 3 -> {
                int attack = ramp();
                int decay = ramp();
                int sustain = numbers.near(0, 1000);
                int release = ramp();
                both("setEnvelope " + i, () -> program.setEnvelope(i, attack, decay, sustain, release),
                    () -> model.setEnvelope(i, attack, decay, sustain, release));
            }
            case 4 -> {
                int cutoff = numbers.near(1, 128);
                int damping = numbers.onceIn(2) ? numbers.near(16, 256) : numbers.near(16, 40);
                both("setFilter " + i, () -> program.setFilter(i, cutoff, damping),
                    () -> model.setFilter(i, cutoff, damping));
            }
            case 5 -> {
                int depth = numbers.near(0, 64);
                int period = numbers.near(8, 255);
                both("setVibrato " + i, () -> program.setVibrato(i, depth, period),
                    () -> model.setVibrato(i, depth, period));
            }
            case 6 -> {
                int gain = numbers.near(0, 256);
                both("setGain " + gain, () -> program.setGain(gain), () -> model.setGain(gain));
            }
            default -> {
                int length = numbers.onceIn(3) ? numbers.near(0, 200) : numbers.near(0, 9);
                int wet = numbers.near(0, 256);
                int back = numbers.near(0, 256);
                both("setDelay " + length, () -> program.setDelay(length, wet, back),
                    () -> model.setDelay(length, wet, back));
            }
        }
    }

    private static void note(int busy) {
        int way = numbers.from(0, 9);
        if (way == 0 && busy > 0) {
            both("hush", () -> program.hush(), () -> model.hush());
        } else if (way < 4 + busy) {
            int voice = numbers.near(0, 3);
            both("end " + voice, () -> program.end(voice), () -> model.end(voice));
        } else {
            int i = numbers.near(0, 3);
            int pitch = numbers.near(0, 47);
            int force = numbers.near(1, 127);
            both("begin " + i + " " + pitch + " " + force, () -> program.begin(i, pitch, force),
                () -> model.begin(i, pitch, force));
        }
    }

    private static void track() {
        int t = numbers.near(0, 2);
        int step = numbers.near(0, 7);
        int way = numbers.from(0, 19);
        if (way < 12) {
            int pitch = numbers.near(-1, 47);
            int force = numbers.near(1, 127);
            int gate = several();
            both("write " + t + " " + step + " " + pitch, () -> program.write(t, step, pitch, force, gate),
                () -> model.write(t, step, pitch, force, gate));
        } else if (way < 14) {
            int i = numbers.near(0, 3);
            both("setTrack " + t + " " + i, () -> program.setTrack(t, i), () -> model.setTrack(t, i));
        } else if (way < 16) {
            int tempo = several();
            int swing = numbers.near(0, Math.max(0, tempo - 1));
            both("setTempo " + tempo + " " + swing, () -> program.setTempo(tempo, swing),
                () -> model.setTempo(tempo, swing));
        } else if (way < 19) {
            both("play " + step, () -> program.play(step) ? 1 : 0, () -> model.play(step));
        } else {
            both("stop", () -> program.stop(), () -> model.stop());
        }
    }

    private static void makeSamples() {
        if (numbers.onceIn(3)) {
            both("sample", () -> program.sample(), () -> model.sample());
        } else {
            int many = several();
            both("run " + many, () -> program.run(many), () -> model.run(many));
        }
    }

    private static void ask() {
        switch (numbers.from(0, 5)) {
            case 0 -> {
                int back = numbers.near(0, 63);
                both("heard " + back, () -> program.heard(back), () -> model.heard(back));
            }
            case 1 -> {
                call++;
                due.same("run " + run + ", call " + call + ", loudness", program.loudness(), model.loudness());
                if (numbers.onceIn(3)) {
                    both("reset", () -> program.reset(), () -> model.reset());
                }
            }
            case 2 -> {
                int voice = numbers.near(0, 3);
                int what = numbers.near(0, 9);
                both("ofVoice " + voice + " " + what, () -> program.ofVoice(voice, what),
                    () -> model.ofVoice(voice, what));
            }
            case 3 -> {
                int t = numbers.near(0, 2);
                int step = numbers.near(0, 7);
                int what = numbers.near(0, 2);
                both("ofStep", () -> program.ofStep(t, step, what), () -> model.ofStep(t, step, what));
            }
            case 4 -> {
                int spot = numbers.near(0, Math.max(0, model.row.size() - 1));
                both("inDelay " + spot, () -> program.inDelay(spot), () -> model.inDelay(spot));
            }
            default -> askAll();
        }
    }

    private static void askAll() {
        both("clock", () -> program.clock(), () -> model.clock());
        both("peak", () -> program.peak(), () -> model.peak());
        both("clipped", () -> program.clipped(), () -> model.clipped());
        both("crossings", () -> program.crossings(), () -> model.crossings());
        both("sounding", () -> program.sounding(), () -> model.sounding());
        both("taken", () -> program.taken(), () -> model.taken());
        both("isPlaying", () -> program.isPlaying() ? 1 : 0, () -> model.isPlaying());
        both("step", () -> program.step(), () -> model.step());
        both("nextVoice", () -> program.nextVoice(), () -> model.nextVoice());
    }

    private static void askAhead() {
        int many = several();
        switch (numbers.from(0, 2)) {
            case 0 -> both("wouldPeak " + many, () -> program.wouldPeak(many), () -> model.wouldPeak(many));
            case 1 -> both("silentIn " + many, () -> program.silentIn(many), () -> model.silentIn(many));
            default -> both("digest", () -> program.digest(), () -> model.digest());
        }
    }
}
