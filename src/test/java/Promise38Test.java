import java.math.BigInteger;

/** Promise 38: digest. */
public final class Promise38Test {
    public static void main(String[] args) {
        Tests.of(Promise38Test.class);
    }

    /** The numbers in the order in which they are named, folded without any wrapping around but at the very end. */
    private static long worked(Melodeon m, int delayLength) {
        BigInteger d = BigInteger.valueOf(58051);
        d = fold(d, m.clock());
        for (int back = 0; back <= 7; back++) {
            d = fold(d, m.heard(back));
        }
        int[] counts = {m.peak(), m.clipped(), m.crossings(), m.sounding(), m.taken(), m.isPlaying() ? 1 : 0, m.step(),
            m.nextVoice()};
        for (int count : counts) {
            d = fold(d, count);
        }
        for (int voice = 0; voice < 4; voice++) {
            for (int what = 0; what <= 9; what++) {
                d = fold(d, m.ofVoice(voice, what));
            }
        }
        for (int track = 0; track < 3; track++) {
            for (int step = 0; step < 8; step++) {
                for (int what = 0; what <= 2; what++) {
                    d = fold(d, m.ofStep(track, step, what));
                }
            }
        }
        for (int place = 0; place < delayLength; place++) {
            d = fold(d, m.inDelay(place));
        }
        return d.longValue();
    }

    private static BigInteger fold(BigInteger d, int number) {
        return d.multiply(BigInteger.valueOf(31)).add(BigInteger.valueOf(number));
    }

    /** "A number d starts with 58051"; "wraps around as a 64-bit integer": of a new object already */
    static void ofANewOne(Due due) {
        due.same("digest()", new Melodeon().digest(), AllZero.digest(0));
        due.same("digest(), worked out", new Melodeon().digest(), worked(new Melodeon(), 0));
    }

    /** "for each of the following numbers x": all that are named, none of them 0 for want of anything to count */
    static void ofAllThatIsNamed(Due due) {
        Melodeon m = Twins.past();
        due.same("digest()", m.digest(), worked(m, 5));
    }

    /** "wraps around": above and below, from sample to sample, so that d is of either sign */
    static void itWrapsAround(Due due) {
        int above = 0;
        int below = 0;
        for (int samples = 1; samples <= 24; samples++) {
            Melodeon m = Twins.past();
            m.run(samples);
            long digest = m.digest();
            due.same("digest() " + samples + " samples later", digest, worked(m, 5));
            above += digest > 0 ? 1 : 0;
            below += digest < 0 ? 1 : 0;
        }
        due.yes("some are above 0, some below", above > 0 && below > 0);
    }

    /** "each inDelay()": none without a DELAY, one, and 200 */
    static void eachPlaceOfTheDelay(Due due) {
        for (int length : new int[] {0, 1, 2, 199, 200}) {
            Melodeon m = new Melodeon();
            m.setDelay(length, 0, 0);
            due.same("digest() of " + length + " places", m.digest(), AllZero.digest(length));
        }
        Melodeon m = Sounds.flat(1000);
        m.setDelay(3, 0, 0);
        m.begin(0, 0, 127);
        m.run(7);
        due.same("digest()", m.digest(), worked(m, 3));
        m.setDelay(0, 0, 0);
        due.same("digest() behind a LENGTH of 0", m.digest(), worked(m, 0));
    }

    /** "(whether something is so counts 1 or 0)", and -1 for a step() without any */
    static void whetherItPlays(Due due) {
        Melodeon m = new Melodeon();
        long before = m.digest();
        m.play(0);
        due.same("digest() as it PLAYS", m.digest(), worked(m, 0));
        due.no("it is another one", m.digest() == before);
        m.stop();
        due.same("digest() as it does not", m.digest(), before);
    }

    /** "heard() of 0 to 7": the eighth counts, the ninth does not */
    static void eightThatWereHeard(Due due) {
        Melodeon eight = Sounds.flat(1000);
        eight.begin(0, 0, 127);
        eight.run(3);
        eight.hush();
        eight.run(6);
        due.same("heard(7)", eight.heard(7), 1000);
        due.same("digest()", eight.digest(), worked(eight, 0));
        eight.run(2);
        due.same("heard(8)", eight.heard(8), 2248);
        due.same("digest()", eight.digest(), worked(eight, 0));
    }

    /** "---- what would be (nothing is changed)" */
    static void nothingIsChanged(Due due) {
        Twins.unchanged(due, "digest()", m -> m.digest());
    }
}
