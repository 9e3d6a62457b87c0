import java.util.ArrayList;
import java.util.List;

/** The document's words, told once more as slowly and directly as can be; nothing is kept but what was set. */
final class Model {
    private static final class Hill {
        int code;
        int strength;
        int delay;
        final List<Boolean> words = new ArrayList<>();
    }

    private int chips = 8;
    private final List<Hill> hills = new ArrayList<>();
    private final int[] storms = new int[20];

    int setCodes(int power) {
        argument(power, 0, 4);
        int before = chips;
        chips = List.of(1, 2, 4, 8, 16).get(power);
        hills.clear();
        return before;
    }

    int hill(int code, int strength) {
        index(code, chips);
        argument(strength, 1, 9);
        if (hills.size() == 8) {
            throw new IllegalStateException();
        }
        Hill hill = new Hill();
        hill.code = code;
        hill.strength = strength;
        hills.add(hill);
        return hills.indexOf(hill);
    }

    int say(int hill, boolean yes) {
        index(hill, hills.size());
        List<Boolean> words = hills.get(hill).words;
        if (words.size() == 12) {
            throw new IllegalStateException();
        }
        words.add(yes);
        return words.size();
    }

    int hush(int hill) {
        index(hill, hills.size());
        int before = hills.get(hill).words.size();
        hills.get(hill).words.clear();
        return before;
    }

    int setDelay(int hill, int delay) {
        index(hill, hills.size());
        argument(delay, 0, chips - 1);
        int before = hills.get(hill).delay;
        hills.get(hill).delay = delay;
        return before;
    }

    int setStrength(int hill, int strength) {
        index(hill, hills.size());
        argument(strength, 1, 9);
        int before = hills.get(hill).strength;
        hills.get(hill).strength = strength;
        return before;
    }

    int setStorm(int place, int storm) {
        index(place, 20);
        argument(storm, -99, 99);
        int before = storms[place];
        storms[place] = storm;
        return before;
    }

    int chip(int code, int place) {
        index(code, chips);
        index(place, chips);
        int common = 0;
        for (int one = 1; one < 16; one = one * 2) {
            if (code / one % 2 == 1 && place / one % 2 == 1) {
                common++;
            }
        }
        return common % 2 == 0 ? 1 : -1;
    }

    int sky(int time) {
        argument(time, 0, 999);
        return skyAt(time);
    }

    private int skyAt(int time) {
        int sum = storms[time % 20];
        for (Hill hill : hills) {
            int own = time - hill.delay;
            if (own >= 0 && own / chips < hill.words.size()) {
                int sign = hill.words.get(own / chips) ? 1 : -1;
                sum += sign * hill.strength * chip(hill.code, own % chips);
            }
        }
        return sum;
    }

    int hear(int code, int time) {
        index(code, chips);
        argument(time, 0, 999);
        int sum = 0;
        for (int place = 0; place < chips; place++) {
            sum += skyAt(time + place) * chip(code, place);
        }
        return sum;
    }

    int word(int hill, int word, int what) {
        index(hill, hills.size());
        index(word, hills.get(hill).words.size());
        index(what, 3);
        boolean yes = hills.get(hill).words.get(word);
        int heard = hear(hills.get(hill).code, word * chips + hills.get(hill).delay);
        boolean right = yes ? heard > 0 : heard < 0;
        return new int[] {yes ? 1 : -1, heard, right ? 0 : 1}[what];
    }

    int about(int hill, int what) {
        index(hill, hills.size());
        index(what, 7);
        Hill it = hills.get(hill);
        int words = it.words.size();
        int wrong = 0;
        int least = words == 0 ? 0 : Integer.MAX_VALUE;
        for (int word = 0; word < words; word++) {
            wrong += word(hill, word, 2);
            least = Math.min(least, Math.abs(word(hill, word, 1)));
        }
        int end = words == 0 ? 0 : words * chips + it.delay;
        return new int[] {it.code, it.strength, it.delay, words, wrong, end, least}[what];
    }

    int count(int what) {
        index(what, 7);
        int[] sums = new int[7];
        sums[0] = chips;
        sums[1] = hills.size();
        List<Integer> taken = new ArrayList<>();
        for (int hill = 0; hill < hills.size(); hill++) {
            sums[2] += about(hill, 3);
            sums[3] += about(hill, 4);
            sums[4] = Math.max(sums[4], about(hill, 5));
            taken.add(about(hill, 0));
        }
        for (int time = 0; time < sums[4]; time++) {
            sums[5] = Math.max(sums[5], Math.abs(skyAt(time)));
        }
        for (int code = 0; code < chips; code++) {
            sums[6] += taken.contains(code) ? 0 : 1;
        }
        return sums[what];
    }

    int alike(int a, int b, int shift) {
        index(a, chips);
        index(b, chips);
        argument(shift, 0, chips - 1);
        int sum = 0;
        for (int place = 0; place < chips; place++) {
            sum += chip(a, place) * chip(b, (place + shift) % chips);
        }
        return Math.abs(sum);
    }

    int shift(int a, int b) {
        index(a, chips);
        index(b, chips);
        int best = chips - 1;
        for (int by = chips - 1; by >= 0; by--) {
            if (alike(a, b, by) >= alike(a, b, best)) {
                best = by;
            }
        }
        return best;
    }

    int advise(int delay) {
        argument(delay, 0, chips - 1);
        int best = -1;
        int least = Integer.MAX_VALUE;
        for (int code = chips - 1; code >= 0; code--) {
            boolean free = true;
            int sum = 0;
            for (Hill hill : hills) {
                free = free && hill.code != code;
                int by = delay - hill.delay < 0 ? delay - hill.delay + chips : delay - hill.delay;
                sum += hill.strength * alike(code, hill.code, by);
            }
            if (free && sum <= least) {
                best = code;
                least = sum;
            }
        }
        return best;
    }

    int would(int hill, int strength) {
        index(hill, hills.size());
        argument(strength, 1, 9);
        int before = setStrength(hill, strength);
        int wrong = count(3);
        setStrength(hill, before);
        return wrong;
    }

    int tune(int hill) {
        index(hill, hills.size());
        int best = 9;
        int fewest = would(hill, 9);
        for (int strength = 8; strength >= 1; strength--) {
            int wrong = would(hill, strength);
            if (wrong <= fewest) {
                best = strength;
                fewest = wrong;
            }
        }
        return best;
    }

    double mean() {
        int end = count(4);
        double sum = 0;
        for (int time = 0; time < end; time++) {
            sum += skyAt(time);
        }
        return end == 0 ? 0 : sum / end;
    }

    long digest() {
        List<Integer> numbers = new ArrayList<>();
        for (int what = 0; what < 7; what++) {
            numbers.add(count(what));
        }
        for (int storm : storms) {
            numbers.add(storm);
        }
        for (int hill = 0; hill < hills.size(); hill++) {
            for (int what = 0; what < 7; what++) {
                numbers.add(about(hill, what));
            }
            for (int word = 0; word < hills.get(hill).words.size(); word++) {
                for (int what = 0; what < 3; what++) {
                    numbers.add(word(hill, word, what));
                }
            }
        }
        long d = 1621;
        for (int x : numbers) {
            d = d * 31 + x;
        }
        return d;
    }

    private static void index(int number, int end) {
        if (number < 0 || number >= end) {
            throw new IndexOutOfBoundsException();
        }
    }

    private static void argument(int number, int least, int most) {
        if (number < least || number > most) {
            throw new IllegalArgumentException();
        }
    }
}
