/** "Terms", VERSIONS, sentence by sentence at its edges; so also promise 19, and what other calls do with VERSIONS. */
public final class VersionEdgesTest extends YardChecks {
    private static final String PART_LETTERS = "0123456789abcdefghijklmnopqrstuvwxyz";

    private static final PluginYard YARD = new PluginYard();

    public static void main(String[] args) {
        oneToEightLetters();
        whichLetters();
        whichLetterIsFirst();
        upToTheFirstZero();
        partsSideBySide();
        whatOnlyParts();
        whatMustStandBetween();
        partByPart();
        noneLeftIsNumberZero();
        numbersAboveWords();
        numbersBySize();
        threeWordsInOrder();
        otherWordsAboveThem();
        otherWordsLetterByLetter();
        equalOnes();
        compareRefuses();
        everyCallThatTakesOne();
        CHECKS.end();
    }

    private static boolean isTaken(long version) {
        return Checks.outcome(() -> new PluginYard().compare(version, v("1"))) instanceof Integer;
    }

    private static void taken(String... texts) {
        for (String text : texts) {
            CHECKS.due("whether " + text + " is a VERSION", isTaken(v(text)), true);
        }
    }

    private static void none(String... texts) {
        for (String text : texts) {
            CHECKS.due("whether " + text + " is a VERSION", isTaken(v(text)), false);
        }
    }

    /** Each is above all before it, looked at from both sides. */
    private static void rising(String... texts) {
        for (int low = 0; low < texts.length; low++) {
            for (int high = low + 1; high < texts.length; high++) {
                compared(texts[low], texts[high], -1);
                compared(texts[high], texts[low], 1);
            }
        }
    }

    private static void alike(String... texts) {
        for (String one : texts) {
            for (String other : texts) {
                compared(one, other, 0);
            }
        }
    }

    private static void compared(String one, String other, int want) {
        CHECKS.answers(want, "compare(" + one + ", " + other + ")", () -> new PluginYard().compare(v(one), v(other)));
    }

    private static void oneToEightLetters() {
        CHECKS.promise("VERSIONS are 1 to 8 letters");
        none("");
        taken("1", "a", "12", "ab", "1234567", "abcdefg", "12345678", "abcdefgh", "1.2-3.4a");
        rising("1234567", "12345678");
        rising("12345678", "12345679");
        rising("1.2.3.40", "1.2.3.41");
    }

    private static void whichLetters() {
        CHECKS.promise("letters out of 0-9, a-z, dot and -");
        for (int letter = 0; letter < 256; letter++) {
            boolean inPart = PART_LETTERS.indexOf(letter) >= 0;
            boolean parts = letter == '.' || letter == '-';
            // 8 bits that are 0 end a VERSION, so that it is one if it was one before them.
            boolean ends = letter == 0;
            String told = "whether one is a VERSION with the letter " + letter;
            CHECKS.due(told + " alone", isTaken(letter), inPart);
            CHECKS.due(told + " first", isTaken(letter | v("\0001a")), inPart);
            CHECKS.due(told + " between", isTaken('1' | (long) letter << 8 | 'a' << 16), inPart || parts || ends);
            CHECKS.due(told + " as the 8th", isTaken(v("1234567") | (long) letter << 56), inPart || ends);
        }
        none("A", "Z", "1A", "1/", "1:", "1`", "1{", "1,1", "1/1", "1 1", "1_1", "1+1", "1~1");
        CHECKS.due("whether -1L is a VERSION", isTaken(-1L), false);
        CHECKS.due("whether the least long is a VERSION", isTaken(Long.MIN_VALUE), false);
        CHECKS.due("whether the greatest long is a VERSION", isTaken(Long.MAX_VALUE), false);
    }

    private static void whichLetterIsFirst() {
        CHECKS.promise("the first letter in its lowest 8 bits");
        CHECKS.answers(0, "compare(1.2, 0x322e31)", () -> YARD.compare(v("1.2"), 0x322e31L));
        CHECKS.answers(-1, "compare(0x322e31, 0x312e32)", () -> YARD.compare(0x322e31L, 0x312e32L));
        CHECKS.answers(1, "compare(0x3039, 0x3930)", () -> YARD.compare(0x3039L, 0x3930L));
        CHECKS.answers(-1, "compare(12345678, 21345678)", () -> YARD.compare(0x3837363534333231L, 0x3837363534333132L));
    }

    private static void upToTheFirstZero() {
        CHECKS.promise("up to the first 8 bits that are 0");
        alike("1", "1\0", "1\0002", "1\0A", "1\0.", "1\0\0\0\0\0\0\u00ff");
        alike("1234567", "1234567\0");
        rising("1\0009", "2\0001");
        none("\0001", "\0", "\0\0\0\0\0\0\0001", "1.\0002", "A\0001");
    }

    private static void partsSideBySide() {
        CHECKS.promise("PARTS: digits side by side, or a-z side by side");
        alike("1a", "1.a", "1-a");
        alike("a1", "a.1", "a-1");
        alike("1a2b3c4d", "1a2b3c4d");
        alike("1a2b3", "1.a2b.3", "1a.2b3");
        rising("1.2", "12");
        rising("0ab", "0b");
        rising("0a.b", "0a.0");
        rising("0a.b", "0ab");
    }

    private static void whatOnlyParts() {
        CHECKS.promise("dots and - only part them");
        alike("1.2", "1-2");
        alike("1.2-3.4", "1-2.3-4");
        alike("1rc", "1.rc", "1-rc");
        alike("rc1", "rc.1", "rc-1");
    }

    private static void whatMustStandBetween() {
        CHECKS.promise("dots and - must stand between PARTS");
        taken("1.1", "1-1", "a.a", "a-a", "1.a", "a-1", "1.2.3.4a", "123456.7", "1.234567", "a.b-c.d1");
        none(".", "-", ".1", "-1", ".a", "-a", "1.", "1-", "a.", "a-", "..", "--", ".-");
        none("1..1", "1--1", "1.-1", "1-.1", "1...1", "a..a", "1.1..1", "1.1.", "1234567.", "1234567-", "1.2.3.4.", "........");
    }

    private static void partByPart() {
        CHECKS.promise("two are compared PART by PART");
        rising("1.9.9", "2.0.0");
        rising("1.1.9", "1.2.0");
        rising("1.2.3.4", "1.2.3.5");
        rising("1z", "1.0a", "1.0", "1.1a");
        rising("1a1a1a1a", "1a1a1a1b", "1a1a1a1");
        rising("1a1a1a1a", "1b1a1a1a", "2a1a1a1a");
        rising("a1a1a1a1", "a1a1a1a2");
    }

    private static void noneLeftIsNumberZero() {
        CHECKS.promise("where one has none left it has a NUMBER 0");
        alike("1", "1.0", "1.0.0", "1.0.0.0", "1-0", "1.000000");
        alike("a", "a0", "a.0", "a.0.0.0", "a0.0-000");
        alike("alpha", "alpha0", "alpha.0", "alpha000");
        rising("1.0.0.a", "1");
        rising("1", "1.0.0.1");
        rising("1z", "1", "1.1");
        rising("a.z", "a", "a1");
        rising("1a1a1a1a", "1a1a1a1", "1a1a1a2");
    }

    private static void numbersAboveWords() {
        CHECKS.promise("a NUMBER is above a WORD");
        rising("alpha", "zzzzzzzz", "0", "00000001");
        rising("1.alpha", "1.rc", "1.z", "1.zzzzzz", "1.0", "1.1");
        rising("z9", "0a");
    }

    private static void numbersBySize() {
        CHECKS.promise("NUMBERS by size");
        alike("0", "00", "00000000");
        alike("7", "07", "00000007");
        alike("1.7", "1.07", "01.00007");
        rising("0", "1", "2", "9", "10", "11", "19", "20", "99", "100", "1000000", "9999999", "10000000", "99999998", "99999999");
        rising("00000009", "10");
        rising("1.9", "1.10", "1.100");
    }

    private static void threeWordsInOrder() {
        CHECKS.promise("WORDS: alpha, beta, rc in this order");
        rising("alpha", "beta", "rc");
        rising("1-alpha", "1-beta", "1-rc", "1");
        alike("alpha", "alpha");
        alike("1-beta", "1beta", "1.beta");
        rising("rc1", "rc2", "rc10");
        rising("alpha9", "beta1", "beta2", "rc0");
    }

    private static void otherWordsAboveThem() {
        CHECKS.promise("above alpha, beta and rc all other WORDS");
        rising("alpha", "beta", "rc", "a", "al", "alp", "alph", "alphaa", "alphab", "alphb", "alq", "b", "be", "bet", "betaa", "betb");
        rising("beta", "rc", "q", "r", "ra", "rb", "rca", "rcc", "rd", "z");
        rising("alpha", "beta", "rc", "aalpha", "abeta", "arc", "xrc");
        rising("1rc9", "1a");
    }

    private static void otherWordsLetterByLetter() {
        CHECKS.promise("other WORDS letter by letter, a beginning before what it is the beginning of");
        rising("a", "aa", "aaa", "aaaaaaa", "aaaaaaaa", "aaaaaaab", "aaaaaaba", "ab", "az", "b", "ba", "z", "zz", "zzzzzzz", "zzzzzzzz");
        rising("abcdefgh", "abcdefgi", "abcdefh");
        rising("m", "mz", "n");
    }

    private static void equalOnes() {
        CHECKS.promise("equal: neither is above");
        for (String text : new String[] {"1", "a", "alpha", "beta", "rc", "1.2-3a", "99999999", "zzzzzzzz", "1a1a1a1a"}) {
            alike(text, text);
        }
    }

    private static void compareRefuses() {
        CHECKS.promise("19: IllegalArgumentException: one is none");
        refusesAndKeeps(YARD, ARGUMENT, "compare(none, 1)", () -> YARD.compare(v("1."), v("1")));
        CHECKS.refuses(ARGUMENT, "compare(1, none)", () -> YARD.compare(v("1"), v(".1")));
        CHECKS.refuses(ARGUMENT, "compare(none, none)", () -> YARD.compare(0, 0));
        CHECKS.refuses(ARGUMENT, "compare(1, none) where the first PART tells", () -> YARD.compare(v("1"), v("2.")));
        CHECKS.answers(-1, "compare(1, 2)", () -> YARD.compare(v("1"), v("2")));
        CHECKS.answers(0, "compare(1, 1)", () -> YARD.compare(v("1"), v("1")));
        CHECKS.answers(1, "compare(2, 1)", () -> YARD.compare(v("2"), v("1")));
    }

    private static void everyCallThatTakesOne() {
        CHECKS.promise("a VERSION is none: host, archive, need");
        for (String text : new String[] {"", "1.", "-1", "1..1", "A", "1234567.", "\0001"}) {
            PluginYard x = yard(1);
            long none = v(text);
            CHECKS.refuses(ARGUMENT, "host(" + text + ")", () -> x.host(none));
            CHECKS.refuses(ARGUMENT, "archive(1, " + text + ", 1)", () -> x.archive(1, none, v("1")));
            CHECKS.refuses(ARGUMENT, "archive(1, 1, " + text + ")", () -> x.archive(1, v("1"), none));
            CHECKS.refuses(ARGUMENT, "need(0, 1, " + text + ", true)", () -> x.need(0, 1, none, true));
        }
        for (String text : new String[] {"1", "z", "123456.7", "12345678", "zzzzzzzz", "1\0."}) {
            PluginYard x = yard(1);
            long one = v(text);
            CHECKS.answers(YARD.compare(one, v("1")), "host(" + text + ")", () -> x.host(one));
            CHECKS.answers(0, "archive(1, " + text + ", " + text + ")", () -> x.archive(1, one, one));
            CHECKS.answers(1, "need(0, 1, " + text + ", false)", () -> x.need(0, 1, one, false));
            CHECKS.answers(YARD.compare(v("1"), one) > 0 ? 1 : 2, "start", x::start);
        }
    }
}
