import java.util.ArrayList;
import java.util.LinkedList;
import java.util.List;

/**
 * The document once more, written as slowly and plainly as it reads: all that was heard is kept, and what is asked of
 * it is counted anew each time. It shares no line with the program.
 */
final class Model {
    static final class Sound {
        long[] waves = {0, 0};
        long detune = 0, mix = 0, attack = 10, decay = 10, release = 10, sustain = 1000;
        long cutoff = 128, damping = 256, depth = 0, period = 64;
    }

    static final class Note {
        String state = "FREE";
        long level, instrument, pitch, force, phase, otherPhase, low, band, age;
        Long gateEnd = null;
    }

    static final List<String> STATES = List.of("FREE", "ATTACK", "DECAY", "SUSTAIN", "RELEASE");
    static final long[] TABLE = {256, 271, 287, 304, 323, 342, 362, 384, 406, 431, 456, 483};

    final long[][] values = new long[4][32];
    final Sound[] sounds = new Sound[4];
    final Note[] notes = new Note[4];
    final long[] trackInstrument = new long[3];
    final long[][][] steps = new long[3][8][];
    long gain = 64, wet = 0, back = 0, tempo = 20, swing = 0, ages = 0, takenNotes = 0;
    LinkedList<Long> row = new LinkedList<>();
    boolean plays = false;
    long stepOn = 0, samplesOfStep = 0, lengthOfStep = 0;
    final List<Long> made = new ArrayList<>();
    final List<Boolean> madeClipped = new ArrayList<>();
    int countedFrom = 0;

    Model() {
        for (int k = 0; k < 32; k++) {
            values[0][k] = -992 + 64 * k;
            values[1][k] = k < 16 ? 1000 : -1000;
            values[2][k] = k < 16 ? -1000 + 125 * k : 1000 - 125 * (k - 16);
        }
        for (int i = 0; i < 4; i++) {
            sounds[i] = new Sound();
            notes[i] = new Note();
        }
    }

    static void place(long number, long places) {
        if (number < 0 || number > places - 1) {
            throw new IndexOutOfBoundsException();
        }
    }

    static void range(long number, long least, long most) {
        if (!(least <= number && number <= most)) {
            throw new IllegalArgumentException();
        }
    }

    static long keep(long number, long limit) {
        return number > limit ? limit : number < -limit ? -limit : number;
    }

    long draw(int k, int value) {
        place(k, 32);
        range(value, -1000, 1000);
        long old = values[3][k];
        values[3][k] = value;
        return old;
    }

    long wave(long wave, long p) {
        place(wave, 4);
        range(p, 0, 65535);
        int k = (int) (p / 2048);
        long a = values[(int) wave][k];
        long b = values[(int) wave][k == 31 ? 0 : k + 1];
        return a + (b - a) * (p % 2048) / 2048;
    }

    long stride(long pitch) {
        range(pitch, 0, 47);
        long stride = TABLE[(int) (pitch % 12)];
        for (long octave = pitch / 12; octave > 0; octave--) {
            stride = stride * 2;
        }
        return stride;
    }

    long setWaves(int instrument, int one, int other, int detune, int mix) {
        place(instrument, 4);
        place(one, 4);
        place(other, 4);
        range(detune, -64, 64);
        range(mix, 0, 100);
        Sound s = sounds[instrument];
        long old = s.mix;
        s.waves = new long[] {one, other};
        s.detune = detune;
        s.mix = mix;
        return old;
    }

    long setEnvelope(int instrument, int attack, int decay, int sustain, int release) {
        place(instrument, 4);
        range(attack, 1, 400);
        range(decay, 1, 400);
        range(release, 1, 400);
        range(sustain, 0, 1000);
        Sound s = sounds[instrument];
        long old = s.sustain;
        s.attack = attack;
        s.decay = decay;
        s.sustain = sustain;
        s.release = release;
        return old;
    }

    long setFilter(int instrument, int cutoff, int damping) {
        place(instrument, 4);
        range(cutoff, 1, 128);
        range(damping, 16, 256);
        long old = sounds[instrument].cutoff;
        sounds[instrument].cutoff = cutoff;
        sounds[instrument].damping = damping;
        return old;
    }

    long setVibrato(int instrument, int depth, int period) {
        place(instrument, 4);
        range(depth, 0, 64);
        range(period, 8, 255);
        long old = sounds[instrument].depth;
        sounds[instrument].depth = depth;
        sounds[instrument].period = period;
        return old;
    }

    long setGain(int told) {
        range(told, 0, 256);
        long old = gain;
        gain = told;
        return old;
    }

    long setDelay(int length, int toldWet, int toldBack) {
        range(length, 0, 200);
        range(toldWet, 0, 256);
        range(toldBack, 0, 256);
        long old = row.size();
        row = new LinkedList<>();
        for (int i = 0; i < length; i++) {
            row.add(0L);
        }
        wet = toldWet;
        back = toldBack;
        return old;
    }

    long nextVoice() {
        for (int i = 0; i < 4; i++) {
            if (notes[i].state.equals("FREE")) {
                return i;
            }
        }
        int found = -1;
        for (int i = 3; i >= 0; i--) {
            if (notes[i].state.equals("RELEASE") && (found < 0 || notes[i].level <= notes[found].level)) {
                found = i;
            }
        }
        if (found >= 0) {
            return found;
        }
        found = 3;
        for (int i = 2; i >= 0; i--) {
            if (notes[i].age <= notes[found].age) {
                found = i;
            }
        }
        return found;
    }

    long beginNote(long instrument, long pitch, long force, Long gateEnd) {
        int voice = (int) nextVoice();
        Note n = new Note();
        n.level = notes[voice].level;
        if (!notes[voice].state.equals("FREE")) {
            takenNotes++;
        }
        n.state = "ATTACK";
        n.instrument = instrument;
        n.pitch = pitch;
        n.force = force;
        n.age = ages++;
        n.gateEnd = gateEnd;
        notes[voice] = n;
        return voice;
    }

    long begin(int instrument, int pitch, int force) {
        place(instrument, 4);
        range(pitch, 0, 47);
        range(force, 1, 127);
        return beginNote(instrument, pitch, force, null);
    }

    static void endNote(Note n) {
        if (n.state.equals("ATTACK") || n.state.equals("DECAY") || n.state.equals("SUSTAIN")) {
            n.state = "RELEASE";
        }
    }

    long end(int voice) {
        place(voice, 4);
        long old = STATES.indexOf(notes[voice].state);
        endNote(notes[voice]);
        return old;
    }

    long hush() {
        long old = sounding();
        for (Note n : notes) {
            n.state = "FREE";
            n.level = 0;
            n.gateEnd = null;
        }
        return old;
    }

    long write(int track, int step, int pitch, int force, int gate) {
        place(track, 3);
        place(step, 8);
        range(pitch, -1, 47);
        if (pitch >= 0) {
            range(force, 1, 127);
            range(gate, 1, 200);
        }
        long old = steps[track][step] == null ? -1 : steps[track][step][0];
        steps[track][step] = pitch < 0 ? null : new long[] {pitch, force, gate};
        return old;
    }

    long setTrack(int track, int instrument) {
        place(track, 3);
        place(instrument, 4);
        long old = trackInstrument[track];
        trackInstrument[track] = instrument;
        return old;
    }

    long setTempo(int told, int toldSwing) {
        range(told, 1, 200);
        range(toldSwing, 0, told - 1);
        long old = tempo;
        tempo = told;
        swing = toldSwing;
        return old;
    }

    long play(int step) {
        place(step, 8);
        long old = plays ? 1 : 0;
        plays = true;
        stepOn = step;
        samplesOfStep = 0;
        return old;
    }

    long stop() {
        long old = step();
        plays = false;
        return old;
    }

    long sample() {
        long clock = made.size();
        for (Note n : notes) {
            if (n.gateEnd != null && n.gateEnd == clock) {
                endNote(n);
            }
        }
        if (plays && samplesOfStep == 0) {
            lengthOfStep = stepOn % 2 == 0 ? tempo + swing : tempo - swing;
            for (int track = 0; track < 3; track++) {
                long[] s = steps[track][(int) stepOn];
                if (s != null) {
                    beginNote(trackInstrument[track], s[0], s[1], clock + s[2]);
                }
            }
        }
        long sum = 0;
        for (Note n : notes) {
            sum += gives(n, clock);
        }
        long m = sum * gain / 16;
        long heard = m;
        if (!row.isEmpty()) {
            long d = row.removeFirst();
            row.addLast(keep(m + d * back / 256, 100000));
            heard = m + d * wet / 256;
        }
        madeClipped.add(heard > 32767 || heard < -32767);
        heard = keep(heard, 32767);
        made.add(heard);
        if (plays) {
            samplesOfStep++;
            if (samplesOfStep == lengthOfStep) {
                samplesOfStep = 0;
                stepOn = stepOn == 7 ? 0 : stepOn + 1;
            }
        }
        return heard;
    }

    long gives(Note n, long clock) {
        Sound i = sounds[(int) n.instrument];
        if (n.state.equals("FREE")) {
            return 0;
        }
        if (n.state.equals("ATTACK")) {
            n.level += 1000000 / i.attack;
            if (n.level >= 1000000) {
                n.level = 1000000;
                n.state = "DECAY";
            }
        } else if (n.state.equals("DECAY")) {
            long s = 1000 * i.sustain;
            n.level -= (1000000 - s) / i.decay + 1;
            if (n.level <= s) {
                n.level = s;
                n.state = "SUSTAIN";
            }
        } else if (n.state.equals("SUSTAIN")) {
            n.level = 1000 * i.sustain;
        } else {
            n.level -= 1000000 / i.release;
            if (n.level <= 0) {
                n.level = 0;
                n.state = "FREE";
                return 0;
            }
        }
        long v = i.depth * wave(2, clock % i.period * 65536 / i.period) / 1000;
        long x = wave(i.waves[0], n.phase);
        long y = wave(i.waves[1], n.otherPhase);
        long o = (x * (100 - i.mix) + y * i.mix) / 100;
        n.phase = (n.phase + stride(n.pitch) + v + 65536) % 65536;
        n.otherPhase = (n.otherPhase + stride(n.pitch) + v + i.detune + 65536) % 65536;
        n.low = keep(n.low + i.cutoff * n.band / 256, 4000);
        long h = o - n.low - i.damping * n.band / 256;
        n.band = keep(n.band + i.cutoff * h / 256, 4000);
        return n.low * n.force / 127 * (n.level / 1000) / 1000;
    }

    long run(int many) {
        range(many, 1, 200);
        long last = 0;
        for (int i = 0; i < many; i++) {
            last = sample();
        }
        return last;
    }

    long heard(int samplesBack) {
        range(samplesBack, 0, 63);
        int at = made.size() - 1 - samplesBack;
        return at < 0 ? 0 : made.get(at);
    }

    long clock() {
        return made.size();
    }

    long peak() {
        long most = 0;
        for (int i = countedFrom; i < made.size(); i++) {
            most = Math.max(most, Math.abs(made.get(i)));
        }
        return most;
    }

    double loudness() {
        long sum = 0;
        for (int i = countedFrom; i < made.size(); i++) {
            sum += Math.abs(made.get(i));
        }
        return sum == 0 ? 0.0 : sum / (double) (made.size() - countedFrom);
    }

    long clipped() {
        long count = 0;
        for (int i = countedFrom; i < made.size(); i++) {
            count += madeClipped.get(i) ? 1 : 0;
        }
        return count;
    }

    long crossings() {
        long count = 0;
        for (int i = countedFrom; i < made.size(); i++) {
            long ahead = i == 0 ? 0 : made.get(i - 1);
            count += made.get(i) > 0 && ahead <= 0 ? 1 : 0;
        }
        return count;
    }

    long reset() {
        long old = made.size() - countedFrom;
        countedFrom = made.size();
        return old;
    }

    long ofVoice(int voice, int what) {
        place(voice, 4);
        range(what, 0, 9);
        Note n = notes[voice];
        long gate = n.gateEnd == null || n.gateEnd < made.size() ? -1 : n.gateEnd - made.size();
        return new long[] {STATES.indexOf(n.state), n.level, n.instrument, n.pitch, n.force, n.phase, n.otherPhase,
            n.low, n.band, gate}[what];
    }

    long sounding() {
        long count = 0;
        for (Note n : notes) {
            count += n.state.equals("FREE") ? 0 : 1;
        }
        return count;
    }

    long taken() {
        return takenNotes;
    }

    long isPlaying() {
        return plays ? 1 : 0;
    }

    long step() {
        return plays ? stepOn : -1;
    }

    long ofStep(int track, int step, int what) {
        place(track, 3);
        place(step, 8);
        range(what, 0, 2);
        return steps[track][step] == null ? (what == 0 ? -1 : 0) : steps[track][step][what];
    }

    long inDelay(int spot) {
        place(spot, row.size());
        return row.get(spot);
    }

    /** A model with the same state, made by hand, that can go ahead on its own. */
    Model twin() {
        Model t = new Model();
        for (int i = 0; i < 4; i++) {
            System.arraycopy(values[i], 0, t.values[i], 0, 32);
            t.sounds[i] = sounds[i];
            Note n = notes[i];
            Note c = new Note();
            c.state = n.state;
            c.level = n.level;
            c.instrument = n.instrument;
            c.pitch = n.pitch;
            c.force = n.force;
            c.phase = n.phase;
            c.otherPhase = n.otherPhase;
            c.low = n.low;
            c.band = n.band;
            c.age = n.age;
            c.gateEnd = n.gateEnd;
            t.notes[i] = c;
        }
        for (int track = 0; track < 3; track++) {
            t.trackInstrument[track] = trackInstrument[track];
            System.arraycopy(steps[track], 0, t.steps[track], 0, 8);
        }
        t.gain = gain;
        t.wet = wet;
        t.back = back;
        t.tempo = tempo;
        t.swing = swing;
        t.ages = ages;
        t.row = new LinkedList<>(row);
        t.plays = plays;
        t.stepOn = stepOn;
        t.samplesOfStep = samplesOfStep;
        t.lengthOfStep = lengthOfStep;
        t.made.addAll(made);
        t.madeClipped.addAll(madeClipped);
        return t;
    }

    long wouldPeak(int many) {
        range(many, 1, 200);
        Model t = twin();
        t.reset();
        t.run(many);
        return t.peak();
    }

    long silentIn(int many) {
        range(many, 1, 200);
        Model t = twin();
        for (int behind = 0; behind <= many; behind++) {
            if (t.sounding() == 0) {
                return behind;
            }
            t.sample();
        }
        return -1;
    }

    long digest() {
        List<Long> all = new ArrayList<>();
        all.add(clock());
        for (int i = 0; i <= 7; i++) {
            all.add(heard(i));
        }
        all.addAll(List.of(peak(), clipped(), crossings(), sounding(), taken(), isPlaying(), step(), nextVoice()));
        for (int voice = 0; voice < 4; voice++) {
            for (int what = 0; what <= 9; what++) {
                all.add(ofVoice(voice, what));
            }
        }
        for (int track = 0; track < 3; track++) {
            for (int step = 0; step < 8; step++) {
                for (int what = 0; what <= 2; what++) {
                    all.add(ofStep(track, step, what));
                }
            }
        }
        all.addAll(row);
        long d = 58051;
        for (long x : all) {
            d = d * 31 + x;
        }
        return d;
    }
}
