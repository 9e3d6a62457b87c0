/** The example of README.md, call by call: each answer is what the comment there says. */
final class ReadmeTest {
    private ReadmeTest() {
    }

    public static void main(String[] args) {
        FlagChips x = new FlagChips();
        int near = x.hill(3, 2);
        Check.due("near", near, 0);
        int far = x.hill(5, 1);
        Check.due("far", far, 1);
        Check.due("say(near, true)", x.say(near, true), 1);
        Check.due("say(far, false)", x.say(far, false), 1);
        Check.due("setDelay(far, 1)", x.setDelay(far, 1), 0);
        Check.due("setStorm(3, -20)", x.setStorm(3, -20), 0);
        Check.due("sky(3)", x.sky(3), -19);
        Check.due("word(near, 0, 1)", x.word(near, 0, 1), -3);
        Check.due("word(near, 0, 2)", x.word(near, 0, 2), 1);
        Check.due("count(3)", x.count(3), 1);
        int best = x.tune(near);
        Check.due("tune(near)", best, 3);
        Check.due("would(near, best)", x.would(near, best), 0);
        Check.due("setStrength(near, best)", x.setStrength(near, best), 2);
        Check.due("word(near, 0, 1) behind it", x.word(near, 0, 1), 5);
        Check.refuses(x, "say(2, true)", IndexOutOfBoundsException.class, () -> x.say(2, true));
        Check.end();
    }
}
