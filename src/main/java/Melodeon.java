/** A synthesizer in whole numbers. What each call promises stands in ../shared/DOC.md. */
public final class Melodeon {
    private static final int WAVES = 4;
    private static final int SAW = 0;
    private static final int SQUARE = 1;
    private static final int TRIANGLE = 2;
    private static final int DRAWN = 3;
    private static final int VALUES = 32;
    private static final int VALUE_WIDTH = 2048;
    private static final int HIGHEST_VALUE = 1000;
    private static final int PHASES = 65536;

    private static final int INSTRUMENTS = 4;
    private static final int PITCHES = 48;
    private static final int HALF_TONES = 12;
    private static final int[] STRIDES = {256, 271, 287, 304, 323, 342, 362, 384, 406, 431, 456, 483};
    private static final int STRONGEST = 127;
    private static final int LONGEST_RAMP = 400;
    private static final int FULL_SUSTAIN = 1000;
    private static final int FULL_LEVEL = 1000000;
    private static final int FILTER_LIMIT = 4000;

    private static final int VOICES = 4;
    private static final int FREE = 0;
    private static final int ATTACK = 1;
    private static final int DECAY = 2;
    private static final int SUSTAIN = 3;
    private static final int RELEASE = 4;
    private static final int VOICE_FACTS = 10;
    private static final int NO_GATE = -1;

    private static final int TRACKS = 3;
    private static final int STEPS = 8;
    private static final int STEP_FACTS = 3;
    private static final int NO_PITCH = -1;
    private static final int LONGEST_GATE = 200;
    private static final int SLOWEST_TEMPO = 200;

    private static final int LONGEST_DELAY = 200;
    private static final int DELAY_LIMIT = 100000;
    private static final int FULL_SHARE = 256;
    private static final int LOUDEST = 32767;
    private static final int MOST_SAMPLES = 200;
    private static final int KEPT_SAMPLES = 64;

    private final Setup setup;
    private final Stage now;
    /** A second stage for what would come: made once, so that asking makes no objects. */
    private final Stage ahead;
    private final Meter meter;

    public Melodeon() {
        setup = new Setup();
        now = new Stage(setup);
        ahead = new Stage(setup);
        meter = new Meter();
    }

    // ---- waves and instruments

    public int draw(int place, int value) throws IndexOutOfBoundsException, IllegalArgumentException {
        needPlace(place, VALUES);
        needWithin(value, -HIGHEST_VALUE, HIGHEST_VALUE);
        return setup.waves.redraw(place, value);
    }

    public int wave(int wave, int phase) throws IndexOutOfBoundsException, IllegalArgumentException {
        needPlace(wave, WAVES);
        needWithin(phase, 0, PHASES - 1);
        return setup.waves.at(wave, phase);
    }

    public int stride(int pitch) throws IllegalArgumentException {
        needWithin(pitch, 0, PITCHES - 1);
        return strideOf(pitch);
    }

    public int setWaves(int instrument, int one, int other, int detune, int mix)
            throws IndexOutOfBoundsException, IllegalArgumentException {
        needPlace(instrument, INSTRUMENTS);
        needPlace(one, WAVES);
        needPlace(other, WAVES);
        needWithin(detune, -64, 64);
        needWithin(mix, 0, 100);
        Instrument told = setup.instrumentOf(instrument);
        int before = told.mix;
        told.firstWave = one;
        told.secondWave = other;
        told.detune = detune;
        told.mix = mix;
        return before;
    }

    public int setEnvelope(int instrument, int attack, int decay, int sustain, int release)
            throws IndexOutOfBoundsException, IllegalArgumentException {
        needPlace(instrument, INSTRUMENTS);
        needWithin(attack, 1, LONGEST_RAMP);
        needWithin(decay, 1, LONGEST_RAMP);
        needWithin(sustain, 0, FULL_SUSTAIN);
        needWithin(release, 1, LONGEST_RAMP);
        Instrument told = setup.instrumentOf(instrument);
        int before = told.sustain;
        told.attack = attack;
        told.decay = decay;
        told.sustain = sustain;
        told.release = release;
        return before;
    }

    public int setFilter(int instrument, int cutoff, int damping)
            throws IndexOutOfBoundsException, IllegalArgumentException {
        needPlace(instrument, INSTRUMENTS);
        needWithin(cutoff, 1, 128);
        needWithin(damping, 16, 256);
        Instrument told = setup.instrumentOf(instrument);
        int before = told.cutoff;
        told.cutoff = cutoff;
        told.damping = damping;
        return before;
    }

    public int setVibrato(int instrument, int depth, int period)
            throws IndexOutOfBoundsException, IllegalArgumentException {
        needPlace(instrument, INSTRUMENTS);
        needWithin(depth, 0, 64);
        needWithin(period, 8, 255);
        Instrument told = setup.instrumentOf(instrument);
        int before = told.depth;
        told.depth = depth;
        told.period = period;
        return before;
    }

    public int setGain(int gain) throws IllegalArgumentException {
        needWithin(gain, 0, 256);
        int before = setup.gain;
        setup.gain = gain;
        return before;
    }

    public int setDelay(int length, int wet, int back) throws IllegalArgumentException {
        needWithin(length, 0, LONGEST_DELAY);
        needWithin(wet, 0, FULL_SHARE);
        needWithin(back, 0, FULL_SHARE);
        int before = now.delay.length;
        now.delay.tell(length, wet, back);
        return before;
    }

    // ---- notes

    public int begin(int instrument, int pitch, int force)
            throws IndexOutOfBoundsException, IllegalArgumentException {
        needPlace(instrument, INSTRUMENTS);
        needWithin(pitch, 0, PITCHES - 1);
        needWithin(force, 1, STRONGEST);
        return now.startNote(instrument, pitch, force, NO_GATE);
    }

    public int end(int voice) throws IndexOutOfBoundsException {
        needPlace(voice, VOICES);
        Voice ended = now.voiceOf(voice);
        int before = ended.state;
        ended.release();
        return before;
    }

    public int hush() {
        int before = now.countSounding();
        for (int number = 0; number < VOICES; number++) {
            now.voiceOf(number).silence();
        }
        return before;
    }

    // ---- tracks

    public int write(int track, int step, int pitch, int force, int gate)
            throws IndexOutOfBoundsException, IllegalArgumentException {
        needPlace(track, TRACKS);
        needPlace(step, STEPS);
        needWithin(pitch, NO_PITCH, PITCHES - 1);
        if (pitch != NO_PITCH) {
            needWithin(force, 1, STRONGEST);
            needWithin(gate, 1, LONGEST_GATE);
        }
        int before = setup.score.pitchOf(track, step);
        if (pitch == NO_PITCH) {
            setup.score.note(track, step, NO_PITCH, 0, 0);
        } else {
            setup.score.note(track, step, pitch, force, gate);
        }
        return before;
    }

    public int setTrack(int track, int instrument) throws IndexOutOfBoundsException {
        needPlace(track, TRACKS);
        needPlace(instrument, INSTRUMENTS);
        int before = setup.score.instruments.get(track);
        setup.score.instruments.put(track, instrument);
        return before;
    }

    public int setTempo(int tempo, int swing) throws IllegalArgumentException {
        needWithin(tempo, 1, SLOWEST_TEMPO);
        needWithin(swing, 0, tempo - 1);
        int before = setup.score.tempo;
        setup.score.tempo = tempo;
        setup.score.swing = swing;
        return before;
    }

    public boolean play(int step) throws IndexOutOfBoundsException {
        needPlace(step, STEPS);
        boolean before = now.playing;
        now.playing = true;
        now.step = step;
        now.left = 0;
        return before;
    }

    public int stop() {
        int before = now.stepOrNone();
        now.playing = false;
        return before;
    }

    // ---- samples

    public int sample() {
        return meter.count(now.advance());
    }

    public int run(int many) throws IllegalArgumentException {
        needWithin(many, 1, MOST_SAMPLES);
        int last = 0;
        for (int made = 0; made < many; made++) {
            last = meter.count(now.advance());
        }
        return last;
    }

    public int heard(int back) throws IllegalArgumentException {
        needWithin(back, 0, KEPT_SAMPLES - 1);
        return meter.latest(back);
    }

    public int clock() {
        return now.clock;
    }

    // ---- how loud

    public int peak() {
        return meter.peak;
    }

    public double loudness() {
        return meter.mean();
    }

    public int clipped() {
        return meter.clipped;
    }

    public int crossings() {
        return meter.crossings;
    }

    public int reset() {
        int before = meter.counted;
        meter.countAnew();
        return before;
    }

    // ---- asking

    public int ofVoice(int voice, int what) throws IndexOutOfBoundsException, IllegalArgumentException {
        needPlace(voice, VOICES);
        needWithin(what, 0, VOICE_FACTS - 1);
        return now.voiceOf(voice).fact(what);
    }

    public int sounding() {
        return now.countSounding();
    }

    public int taken() {
        return now.taken;
    }

    public boolean isPlaying() {
        return now.playing;
    }

    public int step() {
        return now.stepOrNone();
    }

    public int ofStep(int track, int step, int what) throws IndexOutOfBoundsException, IllegalArgumentException {
        needPlace(track, TRACKS);
        needPlace(step, STEPS);
        needWithin(what, 0, STEP_FACTS - 1);
        return setup.score.fact(track, step, what);
    }

    public int inDelay(int place) throws IndexOutOfBoundsException {
        needPlace(place, now.delay.length);
        return now.delay.at(place);
    }

    // ---- what would be (nothing is changed)

    public int wouldPeak(int many) throws IllegalArgumentException {
        needWithin(many, 1, MOST_SAMPLES);
        ahead.copy(now);
        int greatest = 0;
        for (int made = 0; made < many; made++) {
            greatest = Math.max(greatest, Math.abs(kept(ahead.advance(), LOUDEST)));
        }
        return greatest;
    }

    public int silentIn(int many) throws IllegalArgumentException {
        needWithin(many, 1, MOST_SAMPLES);
        if (now.countSounding() == 0) {
            return 0;
        }
        ahead.copy(now);
        for (int made = 1; made <= many; made++) {
            ahead.advance();
            if (ahead.countSounding() == 0) {
                return made;
            }
        }
        return -1;
    }

    public int nextVoice() {
        return now.voiceToTake();
    }

    public long digest() {
        long sum = fold(58051, clock());
        for (int back = 0; back < 8; back++) {
            sum = fold(sum, heard(back));
        }
        sum = fold(sum, peak());
        sum = fold(sum, clipped());
        sum = fold(sum, crossings());
        sum = fold(sum, sounding());
        sum = fold(sum, taken());
        sum = fold(sum, isPlaying() ? 1 : 0);
        sum = fold(sum, step());
        sum = fold(sum, nextVoice());
        sum = foldVoices(sum);
        sum = foldSteps(sum);
        return foldDelay(sum);
    }

    private long foldVoices(long start) {
        long sum = start;
        for (int voice = 0; voice < VOICES; voice++) {
            for (int what = 0; what < VOICE_FACTS; what++) {
                sum = fold(sum, ofVoice(voice, what));
            }
        }
        return sum;
    }

    private long foldSteps(long start) {
        long sum = start;
        for (int track = 0; track < TRACKS; track++) {
            for (int step = 0; step < STEPS; step++) {
                for (int what = 0; what < STEP_FACTS; what++) {
                    sum = fold(sum, ofStep(track, step, what));
                }
            }
        }
        return sum;
    }

    private long foldDelay(long start) {
        long sum = start;
        for (int place = 0; place < now.delay.length; place++) {
            sum = fold(sum, inDelay(place));
        }
        return sum;
    }

    private static long fold(long sum, long number) {
        return sum * 31 + number;
    }

    private static void needPlace(int place, int places) {
        if (place < 0 || place >= places) {
            throw new IndexOutOfBoundsException("there is no such place");
        }
    }

    private static void needWithin(int number, int least, int most) {
        if (number < least || number > most) {
            throw new IllegalArgumentException("a number is outside of its range");
        }
    }

    private static int kept(int number, int limit) {
        return Math.max(-limit, Math.min(limit, number));
    }

    /** The ranges of the face leave no divisor 0; it is tested here so that no state could make the machine throw. */
    private static int quotient(int number, int divisor) {
        return divisor == 0 ? 0 : number / divisor;
    }

    private static int strideOf(int pitch) {
        int tone = pitch % HALF_TONES;
        return tone >= 0 && tone < STRIDES.length ? STRIDES[tone] << (pitch / HALF_TONES) : 0;
    }

    /** A row of numbers that tests each index, so that none of its users can make the machine throw. */
    private static final class Row {
        private final int[] numbers;

        Row(int size) {
            numbers = new int[Math.max(0, size)];
        }

        int get(int place) {
            return place >= 0 && place < numbers.length ? numbers[place] : 0;
        }

        void put(int place, int number) {
            if (place >= 0 && place < numbers.length) {
                numbers[place] = number;
            }
        }

        void fill(int number) {
            for (int place = 0; place < numbers.length; place++) {
                numbers[place] = number;
            }
        }

        void copy(Row other) {
            for (int place = 0; place < numbers.length; place++) {
                numbers[place] = other.get(place);
            }
        }
    }

    /** The four waves, one behind the other in one row. */
    private static final class Waves {
        private final Row values = new Row(WAVES * VALUES);

        Waves() {
            for (int k = 0; k < VALUES; k++) {
                boolean firstHalf = k < VALUES / 2;
                values.put(SAW * VALUES + k, -992 + 64 * k);
                values.put(SQUARE * VALUES + k, firstHalf ? 1000 : -1000);
                values.put(TRIANGLE * VALUES + k, firstHalf ? -1000 + 125 * k : 1000 - 125 * (k - VALUES / 2));
            }
        }

        int redraw(int place, int value) {
            int before = values.get(DRAWN * VALUES + place);
            values.put(DRAWN * VALUES + place, value);
            return before;
        }

        int at(int wave, int phase) {
            int k = phase / VALUE_WIDTH;
            int a = values.get(wave * VALUES + k);
            int b = values.get(wave * VALUES + (k + 1) % VALUES);
            return a + (b - a) * (phase % VALUE_WIDTH) / VALUE_WIDTH;
        }
    }

    private static final class Instrument {
        int firstWave;
        int secondWave;
        int detune;
        int mix;
        int attack = 10;
        int decay = 10;
        int sustain = FULL_SUSTAIN;
        int release = 10;
        int cutoff = 128;
        int damping = 256;
        int depth;
        int period = 64;

        int vibratoAt(int clock, Waves waves) {
            int part = period == 0 ? 0 : clock % period;
            int swing = waves.at(TRIANGLE, quotient(part * PHASES, period));
            return depth * swing / 1000;
        }
    }

    /** What is written on the tracks, and their tempo. */
    private static final class Score {
        final Row instruments = new Row(TRACKS);
        private final Row pitches = new Row(TRACKS * STEPS);
        private final Row forces = new Row(TRACKS * STEPS);
        private final Row gates = new Row(TRACKS * STEPS);
        int tempo = 20;
        int swing;

        Score() {
            pitches.fill(NO_PITCH);
        }

        void note(int track, int step, int pitch, int force, int gate) {
            int place = track * STEPS + step;
            pitches.put(place, pitch);
            forces.put(place, force);
            gates.put(place, gate);
        }

        int pitchOf(int track, int step) {
            return pitches.get(track * STEPS + step);
        }

        int forceOf(int track, int step) {
            return forces.get(track * STEPS + step);
        }

        int gateOf(int track, int step) {
            return gates.get(track * STEPS + step);
        }

        int fact(int track, int step, int what) {
            switch (what) {
                case 0:
                    return pitchOf(track, step);
                case 1:
                    return forceOf(track, step);
                default:
                    return gateOf(track, step);
            }
        }

        int lengthOf(int step) {
            return step % 2 == 0 ? tempo + swing : tempo - swing;
        }
    }

    /** What is told by calls, and stays as it is while samples are made. */
    private static final class Setup {
        final Waves waves = new Waves();
        final Score score = new Score();
        int gain = 64;
        private final Instrument first = new Instrument();
        private final Instrument second = new Instrument();
        private final Instrument third = new Instrument();
        private final Instrument fourth = new Instrument();

        /** Four names rather than an array: there is no index and no null that would have to be tested. */
        Instrument instrumentOf(int number) {
            switch (number) {
                case 0:
                    return first;
                case 1:
                    return second;
                case 2:
                    return third;
                default:
                    return fourth;
            }
        }
    }

    private static final class Voice {
        int state = FREE;
        private int level;
        int instrument;
        private int pitch;
        private int force;
        private int firstPhase;
        private int secondPhase;
        private int low;
        private int band;
        private int gate = NO_GATE;
        /** The how manyeth of all notes it has: the clock alone would not tell which of two began first. */
        private int order;

        void copy(Voice other) {
            state = other.state;
            level = other.level;
            instrument = other.instrument;
            pitch = other.pitch;
            force = other.force;
            firstPhase = other.firstPhase;
            secondPhase = other.secondPhase;
            low = other.low;
            band = other.band;
            gate = other.gate;
            order = other.order;
        }

        /** The level stays, so that a taken voice does not click. */
        void start(int newInstrument, int newPitch, int newForce, int newGate, int newOrder) {
            state = ATTACK;
            instrument = newInstrument;
            pitch = newPitch;
            force = newForce;
            gate = newGate;
            order = newOrder;
            firstPhase = 0;
            secondPhase = 0;
            low = 0;
            band = 0;
        }

        void release() {
            if (state != FREE) {
                state = RELEASE;
            }
        }

        void silence() {
            state = FREE;
            level = 0;
            gate = NO_GATE;
        }

        void closeGate() {
            if (gate == 0) {
                release();
                gate = NO_GATE;
            }
        }

        void countGate() {
            if (gate > 0) {
                gate--;
            }
        }

        boolean isTakenBefore(Voice other) {
            int rank = rankToTake();
            int otherRank = other.rankToTake();
            if (rank != otherRank) {
                return rank < otherRank;
            }
            if (state == RELEASE) {
                return level < other.level;
            }
            return state != FREE && order < other.order;
        }

        private int rankToTake() {
            switch (state) {
                case FREE:
                    return 0;
                case RELEASE:
                    return 1;
                default:
                    return 2;
            }
        }

        /** What it gives in one sample. */
        int give(Instrument told, Waves waves, int clock) {
            moveLevel(told);
            if (state == FREE) {
                return 0;
            }
            filter(told, oscillate(told, waves, clock));
            return low * force / STRONGEST * (level / 1000) / 1000;
        }

        private void moveLevel(Instrument told) {
            int held = 1000 * told.sustain;
            switch (state) {
                case ATTACK:
                    level += quotient(FULL_LEVEL, told.attack);
                    if (level >= FULL_LEVEL) {
                        level = FULL_LEVEL;
                        state = DECAY;
                    }
                    break;
                case DECAY:
                    level -= quotient(FULL_LEVEL - held, told.decay) + 1;
                    if (level <= held) {
                        level = held;
                        state = SUSTAIN;
                    }
                    break;
                case SUSTAIN:
                    level = held;
                    break;
                case RELEASE:
                    level -= quotient(FULL_LEVEL, told.release);
                    if (level <= 0) {
                        level = 0;
                        state = FREE;
                    }
                    break;
                default:
                    break;
            }
        }

        private int oscillate(Instrument told, Waves waves, int clock) {
            int x = waves.at(told.firstWave, firstPhase);
            int y = waves.at(told.secondWave, secondPhase);
            int forward = strideOf(pitch) + told.vibratoAt(clock, waves);
            firstPhase = Math.floorMod(firstPhase + forward, PHASES);
            secondPhase = Math.floorMod(secondPhase + forward + told.detune, PHASES);
            return (x * (100 - told.mix) + y * told.mix) / 100;
        }

        private void filter(Instrument told, int input) {
            low = kept(low + told.cutoff * band / 256, FILTER_LIMIT);
            int high = input - low - told.damping * band / 256;
            band = kept(band + told.cutoff * high / 256, FILTER_LIMIT);
        }

        int fact(int what) {
            switch (what) {
                case 0:
                    return state;
                case 1:
                    return level;
                case 2:
                    return instrument;
                case 3:
                    return pitch;
                case 4:
                    return force;
                case 5:
                    return firstPhase;
                case 6:
                    return secondPhase;
                case 7:
                    return low;
                case 8:
                    return band;
                default:
                    return gate;
            }
        }
    }

    /** The row goes round in a ring: its first number is at 'first', and the last one just before. */
    private static final class Delay {
        int length;
        private int wet;
        private int back;
        private int first;
        private final Row ring = new Row(LONGEST_DELAY);

        void tell(int newLength, int newWet, int newBack) {
            length = newLength;
            wet = newWet;
            back = newBack;
            first = 0;
            ring.fill(0);
        }

        void copy(Delay other) {
            length = other.length;
            wet = other.wet;
            back = other.back;
            first = other.first;
            ring.copy(other.ring);
        }

        int pass(int mixed) {
            if (length == 0) {
                return mixed;
            }
            int oldest = ring.get(first);
            ring.put(first, kept(mixed + oldest * back / FULL_SHARE, DELAY_LIMIT));
            first = first + 1 < length ? first + 1 : 0;
            return mixed + oldest * wet / FULL_SHARE;
        }

        int at(int place) {
            int behind = first + place;
            return ring.get(behind < length ? behind : behind - length);
        }
    }

    /** All that a sample changes, but for what was heard; a copy can go ahead on its own. */
    private static final class Stage {
        private final Setup setup;
        final Delay delay = new Delay();
        private final Voice first = new Voice();
        private final Voice second = new Voice();
        private final Voice third = new Voice();
        private final Voice fourth = new Voice();
        int clock;
        private int begun;
        int taken;
        boolean playing;
        int step;
        /** How many samples of the step are left; 0 as long as it has not begun. */
        int left;

        Stage(Setup told) {
            setup = told;
        }

        void copy(Stage other) {
            for (int number = 0; number < VOICES; number++) {
                voiceOf(number).copy(other.voiceOf(number));
            }
            delay.copy(other.delay);
            clock = other.clock;
            begun = other.begun;
            taken = other.taken;
            playing = other.playing;
            step = other.step;
            left = other.left;
        }

        /** Four names rather than an array: there is no index and no null that would have to be tested. */
        Voice voiceOf(int number) {
            switch (number) {
                case 0:
                    return first;
                case 1:
                    return second;
                case 2:
                    return third;
                default:
                    return fourth;
            }
        }

        int countSounding() {
            int count = 0;
            for (int number = 0; number < VOICES; number++) {
                if (voiceOf(number).state != FREE) {
                    count++;
                }
            }
            return count;
        }

        int stepOrNone() {
            return playing ? step : -1;
        }

        int voiceToTake() {
            int best = 0;
            for (int number = 1; number < VOICES; number++) {
                if (voiceOf(number).isTakenBefore(voiceOf(best))) {
                    best = number;
                }
            }
            return best;
        }

        int startNote(int instrument, int pitch, int force, int gate) {
            int number = voiceToTake();
            Voice voice = voiceOf(number);
            if (voice.state != FREE) {
                taken++;
            }
            begun++;
            voice.start(instrument, pitch, force, gate, begun);
            return number;
        }

        /** Makes a sample, which is not clipped yet. */
        int advance() {
            closeGates();
            if (playing && left == 0) {
                startStep();
            }
            int made = delay.pass(mixVoices() * setup.gain / 16);
            countGates();
            if (playing) {
                countStep();
            }
            clock++;
            return made;
        }

        private void closeGates() {
            for (int number = 0; number < VOICES; number++) {
                voiceOf(number).closeGate();
            }
        }

        private void countGates() {
            for (int number = 0; number < VOICES; number++) {
                voiceOf(number).countGate();
            }
        }

        private void startStep() {
            Score score = setup.score;
            left = score.lengthOf(step);
            for (int track = 0; track < TRACKS; track++) {
                int pitch = score.pitchOf(track, step);
                if (pitch != NO_PITCH) {
                    int instrument = score.instruments.get(track);
                    startNote(instrument, pitch, score.forceOf(track, step), score.gateOf(track, step));
                }
            }
        }

        private void countStep() {
            left--;
            if (left == 0) {
                step = (step + 1) % STEPS;
            }
        }

        private int mixVoices() {
            int sum = 0;
            for (int number = 0; number < VOICES; number++) {
                Voice voice = voiceOf(number);
                sum += voice.give(setup.instrumentOf(voice.instrument), setup.waves, clock);
            }
            return sum;
        }
    }

    /** What was heard, and how loud it was since the last reset. */
    private static final class Meter {
        private final Row ring = new Row(KEPT_SAMPLES);
        private int next;
        private int last;
        int counted;
        int peak;
        private long sum;
        int clipped;
        int crossings;

        /** Counts a sample that was made, and answers it as it is clipped. */
        int count(int made) {
            int heard = kept(made, LOUDEST);
            if (heard != made) {
                clipped++;
            }
            if (heard > 0 && last <= 0) {
                crossings++;
            }
            counted++;
            sum += Math.abs(heard);
            peak = Math.max(peak, Math.abs(heard));
            last = heard;
            ring.put(next, heard);
            next = (next + 1) % KEPT_SAMPLES;
            return heard;
        }

        int latest(int back) {
            return ring.get(Math.floorMod(next - 1 - back, KEPT_SAMPLES));
        }

        double mean() {
            return counted == 0 ? 0.0 : (double) sum / counted;
        }

        void countAnew() {
            counted = 0;
            peak = 0;
            sum = 0;
            clipped = 0;
            crossings = 0;
        }
    }
}
