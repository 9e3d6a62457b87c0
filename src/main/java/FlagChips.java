import java.util.ArrayList;
import java.util.Arrays;

/** Semaphore hills that signal at the same time; ../shared/DOC.md says what each call promises. */
public final class FlagChips {
    private static final int MOST_POWER = 4;
    private static final int MOST_LENGTH = 1 << MOST_POWER;
    private static final int FIRST_LENGTH = 8;
    private static final int MOST_HILLS = 8;
    private static final int MOST_WORDS = 12;
    private static final int MOST_STRENGTH = 9;
    private static final int STORMS = 20;
    private static final int MOST_STORM = 99;
    private static final int LAST_TIME = 999;
    // The last word of a hill with the longest code, the longest row and the longest delay ends here.
    private static final int SIGNAL_CHIPS = MOST_WORDS * MOST_LENGTH + MOST_LENGTH - 1;

    private static final int WORD_ANSWERS = 3;
    private static final int ABOUT_ANSWERS = 7;
    private static final int COUNT_ANSWERS = 7;
    private static final long DIGEST_START = 1621;
    private static final long DIGEST_FACTOR = 31;

    private final Codes codes = new Codes();
    private final Sky sky = new Sky(codes);
    private final ArrayList<Hill> hills = new ArrayList<>();

    public FlagChips() {
    }

    // ---- codes, hills, storms.

    public int setCodes(int power) throws IllegalArgumentException {
        if (power < 0 || power > MOST_POWER) {
            throw new IllegalArgumentException("power is not 0 to 4");
        }
        int before = codes.length;
        codes.length = 1 << power;
        hills.clear();
        sky.silence();
        return before;
    }

    public int hill(int code, int strength)
            throws IndexOutOfBoundsException, IllegalArgumentException, IllegalStateException {
        checkCode(code);
        checkStrength(strength);
        if (hills.size() >= MOST_HILLS) {
            throw new IllegalStateException("there are 8 hills");
        }
        hills.add(new Hill(code, strength));
        return hills.size() - 1;
    }

    public int say(int hill, boolean yes) throws IndexOutOfBoundsException, IllegalStateException {
        Hill speaker = hillAt(hill);
        if (speaker.isFull()) {
            throw new IllegalStateException("the hill has 12 words");
        }
        speaker.add(yes ? 1 : -1);
        sky.addWord(speaker, speaker.said - 1, speaker.strength);
        return speaker.said;
    }

    public int hush(int hill) throws IndexOutOfBoundsException {
        Hill speaker = hillAt(hill);
        int before = speaker.said;
        sky.addWords(speaker, -speaker.strength);
        speaker.said = 0;
        return before;
    }

    public int setDelay(int hill, int delay) throws IndexOutOfBoundsException, IllegalArgumentException {
        Hill speaker = hillAt(hill);
        checkDelay(delay);
        int before = speaker.delay;
        sky.addWords(speaker, -speaker.strength);
        speaker.delay = delay;
        sky.addWords(speaker, speaker.strength);
        return before;
    }

    public int setStrength(int hill, int strength) throws IndexOutOfBoundsException, IllegalArgumentException {
        Hill speaker = hillAt(hill);
        checkStrength(strength);
        int before = speaker.strength;
        sky.addWords(speaker, strength - before);
        speaker.strength = strength;
        return before;
    }

    public int setStorm(int place, int storm) throws IndexOutOfBoundsException, IllegalArgumentException {
        if (place < 0 || place >= STORMS) {
            throw new IndexOutOfBoundsException("place is not 0 to 19");
        }
        if (storm < -MOST_STORM || storm > MOST_STORM) {
            throw new IllegalArgumentException("storm is not -99 to 99");
        }
        int before = sky.storms[place];
        sky.storms[place] = storm;
        return before;
    }

    // ---- the sky.

    public int chip(int code, int place) throws IndexOutOfBoundsException {
        checkCode(code);
        // There are as many places as codes.
        if (!codes.has(place)) {
            throw new IndexOutOfBoundsException("there is no such place");
        }
        return codes.chipAt(code, place);
    }

    public int sky(int time) throws IllegalArgumentException {
        checkTime(time);
        return sky.at(time);
    }

    public int hear(int code, int time) throws IndexOutOfBoundsException, IllegalArgumentException {
        checkCode(code);
        checkTime(time);
        return sky.heard(code, time);
    }

    public int word(int hill, int word, int what) throws IndexOutOfBoundsException {
        Hill speaker = hillAt(hill);
        if (word < 0 || word >= speaker.said) {
            throw new IndexOutOfBoundsException("there is no such word");
        }
        switch (what) {
            case 0:
                return speaker.wordAt(word);
            case 1:
                return sky.heardWord(speaker, word);
            case 2:
                return speaker.isWrong(word, sky.heardWord(speaker, word)) ? 1 : 0;
            default:
                throw new IndexOutOfBoundsException("what is not 0 to 2");
        }
    }

    public int about(int hill, int what) throws IndexOutOfBoundsException {
        Hill speaker = hillAt(hill);
        switch (what) {
            case 0:
                return speaker.code;
            case 1:
                return speaker.strength;
            case 2:
                return speaker.delay;
            case 3:
                return speaker.said;
            case 4:
                return sky.wrongWords(speaker);
            case 5:
                return speaker.end(codes.length);
            case 6:
                return sky.faintest(speaker);
            default:
                throw new IndexOutOfBoundsException("what is not 0 to 6");
        }
    }

    public int count(int what) throws IndexOutOfBoundsException {
        switch (what) {
            case 0:
                return codes.length;
            case 1:
                return hills.size();
            case 2:
                return allWords();
            case 3:
                return allWrongWords();
            case 4:
                return endOfAll();
            case 5:
                return sky.highest(endOfAll());
            case 6:
                return freeCodes();
            default:
                throw new IndexOutOfBoundsException("what is not 0 to 6");
        }
    }

    // ---- codes.

    public int alike(int a, int b, int shift) throws IndexOutOfBoundsException, IllegalArgumentException {
        checkCode(a);
        checkCode(b);
        // There are as many shifts as codes.
        if (!codes.has(shift)) {
            throw new IllegalArgumentException("shift is not 0 to L - 1");
        }
        return codes.likeness(a, b, shift);
    }

    public int shift(int a, int b) throws IndexOutOfBoundsException {
        checkCode(a);
        checkCode(b);
        int best = 0;
        int most = codes.likeness(a, b, 0);
        for (int by = 1; by < codes.length; by++) {
            int likeness = codes.likeness(a, b, by);
            if (likeness > most) {
                most = likeness;
                best = by;
            }
        }
        return best;
    }

    // ---- what would be.

    public int advise(int delay) throws IllegalArgumentException {
        checkDelay(delay);
        int best = -1;
        int least = 0;
        for (int code = 0; code < codes.length; code++) {
            if (isTaken(code)) {
                continue;
            }
            int likeness = likenessToAll(code, delay);
            if (best < 0 || likeness < least) {
                least = likeness;
                best = code;
            }
        }
        return best;
    }

    public int would(int hill, int strength) throws IndexOutOfBoundsException, IllegalArgumentException {
        Hill speaker = hillAt(hill);
        checkStrength(strength);
        return wrongWordsWith(speaker, strength);
    }

    public int tune(int hill) throws IndexOutOfBoundsException {
        Hill speaker = hillAt(hill);
        int best = 1;
        int fewest = wrongWordsWith(speaker, 1);
        for (int strength = 2; strength <= MOST_STRENGTH; strength++) {
            int wrong = wrongWordsWith(speaker, strength);
            if (wrong < fewest) {
                fewest = wrong;
                best = strength;
            }
        }
        return best;
    }

    public double mean() {
        int end = endOfAll();
        if (end <= 0) {
            return 0;
        }
        return (double) sky.sum(end) / end;
    }

    public long digest() {
        long d = DIGEST_START;
        for (int what = 0; what < COUNT_ANSWERS; what++) {
            d = d * DIGEST_FACTOR + count(what);
        }
        for (int storm : sky.storms) {
            d = d * DIGEST_FACTOR + storm;
        }
        for (int hill = 0; hill < hills.size(); hill++) {
            d = digestHill(d, hill);
        }
        return d;
    }

    private long digestHill(long start, int hill) {
        long d = start;
        for (int what = 0; what < ABOUT_ANSWERS; what++) {
            d = d * DIGEST_FACTOR + about(hill, what);
        }
        int words = hillAt(hill).said;
        for (int word = 0; word < words; word++) {
            for (int what = 0; what < WORD_ANSWERS; what++) {
                d = d * DIGEST_FACTOR + word(hill, word, what);
            }
        }
        return d;
    }

    private Hill hillAt(int hill) {
        if (hill < 0 || hill >= hills.size()) {
            throw new IndexOutOfBoundsException("there is no such hill");
        }
        return hills.get(hill);
    }

    private void checkCode(int code) {
        if (!codes.has(code)) {
            throw new IndexOutOfBoundsException("there is no such code");
        }
    }

    private void checkStrength(int strength) {
        if (strength < 1 || strength > MOST_STRENGTH) {
            throw new IllegalArgumentException("strength is not 1 to 9");
        }
    }

    private void checkDelay(int delay) {
        if (delay < 0 || delay >= codes.length) {
            throw new IllegalArgumentException("delay is not 0 to L - 1");
        }
    }

    private void checkTime(int time) {
        if (time < 0 || time > LAST_TIME) {
            throw new IllegalArgumentException("time is not 0 to 999");
        }
    }

    private int allWords() {
        int words = 0;
        for (int hill = 0; hill < hills.size(); hill++) {
            words += hills.get(hill).said;
        }
        return words;
    }

    private int allWrongWords() {
        int wrong = 0;
        for (int hill = 0; hill < hills.size(); hill++) {
            wrong += sky.wrongWords(hills.get(hill));
        }
        return wrong;
    }

    private int wrongWordsWith(Hill hill, int strength) {
        int change = strength - hill.strength;
        sky.addWords(hill, change);
        int wrong = allWrongWords();
        // What was tried is taken back, for nothing may be changed.
        sky.addWords(hill, -change);
        return wrong;
    }

    private int endOfAll() {
        int end = 0;
        for (int hill = 0; hill < hills.size(); hill++) {
            end = Math.max(end, hills.get(hill).end(codes.length));
        }
        return end;
    }

    private boolean isTaken(int code) {
        for (int hill = 0; hill < hills.size(); hill++) {
            if (hills.get(hill).code == code) {
                return true;
            }
        }
        return false;
    }

    private int freeCodes() {
        int free = 0;
        for (int code = 0; code < codes.length; code++) {
            if (!isTaken(code)) {
                free++;
            }
        }
        return free;
    }

    private int likenessToAll(int code, int delay) {
        int sum = 0;
        for (int index = 0; index < hills.size(); index++) {
            Hill hill = hills.get(index);
            int by = delay - hill.delay;
            if (by < 0) {
                by += codes.length;
            }
            sum += hill.strength * codes.likeness(code, hill.code, by);
        }
        return sum;
    }

    /** The codes that there are: as many as each has chips. */
    private static final class Codes {
        int length = FIRST_LENGTH;

        boolean has(int code) {
            return code >= 0 && code < length;
        }

        int chipAt(int code, int place) {
            return (Integer.bitCount(code & place) & 1) == 0 ? 1 : -1;
        }

        int likeness(int a, int b, int by) {
            int sum = 0;
            for (int place = 0; place < length; place++) {
                int other = place + by;
                if (other >= length) {
                    other -= length;
                }
                sum += chipAt(a, place) * chipAt(b, other);
            }
            return Math.abs(sum);
        }
    }

    /** A hill; its words are kept as 1 for yes and -1 for no. */
    private static final class Hill {
        final int code;
        int strength;
        int delay = 0;
        int said = 0;
        private final int[] words = new int[MOST_WORDS];

        Hill(int code, int strength) {
            this.code = code;
            this.strength = strength;
        }

        boolean isFull() {
            return said >= words.length;
        }

        void add(int word) {
            if (!isFull()) {
                words[said] = word;
                said++;
            }
        }

        int wordAt(int index) {
            return index >= 0 && index < words.length ? words[index] : 0;
        }

        boolean isWrong(int word, int heard) {
            // Hearing nothing (0) is wrong as well.
            return heard * wordAt(word) <= 0;
        }

        int start(int word, int length) {
            return word * length + delay;
        }

        int end(int length) {
            return said == 0 ? 0 : start(said, length);
        }
    }

    /** The sky: what the hills signal, kept added up for each chip of time, and the storms. */
    private static final class Sky {
        final int[] storms = new int[STORMS];
        private final int[] signals = new int[SIGNAL_CHIPS];
        private final Codes codes;

        Sky(Codes codes) {
            this.codes = codes;
        }

        void silence() {
            Arrays.fill(signals, 0);
        }

        /** A negative strength takes away what was added before. */
        void addWords(Hill hill, int strength) {
            for (int word = 0; word < hill.said; word++) {
                addWord(hill, word, strength);
            }
        }

        void addWord(Hill hill, int word, int strength) {
            int height = strength * hill.wordAt(word);
            int start = hill.start(word, codes.length);
            for (int place = 0; place < codes.length; place++) {
                int time = start + place;
                if (time >= 0 && time < signals.length) {
                    signals[time] += height * codes.chipAt(hill.code, place);
                }
            }
        }

        int at(int time) {
            if (time < 0) {
                return 0;
            }
            int storm = storms[time % STORMS];
            return time < signals.length ? signals[time] + storm : storm;
        }

        int heard(int code, int time) {
            int sum = 0;
            for (int place = 0; place < codes.length; place++) {
                sum += at(time + place) * codes.chipAt(code, place);
            }
            return sum;
        }

        int heardWord(Hill hill, int word) {
            return heard(hill.code, hill.start(word, codes.length));
        }

        int wrongWords(Hill hill) {
            int wrong = 0;
            for (int word = 0; word < hill.said; word++) {
                if (hill.isWrong(word, heardWord(hill, word))) {
                    wrong++;
                }
            }
            return wrong;
        }

        int faintest(Hill hill) {
            int least = 0;
            for (int word = 0; word < hill.said; word++) {
                int loud = Math.abs(heardWord(hill, word));
                if (word == 0 || loud < least) {
                    least = loud;
                }
            }
            return least;
        }

        int highest(int end) {
            int most = 0;
            for (int time = 0; time < end; time++) {
                most = Math.max(most, Math.abs(at(time)));
            }
            return most;
        }

        int sum(int end) {
            int sum = 0;
            for (int time = 0; time < end; time++) {
                sum += at(time);
            }
            return sum;
        }
    }
}
