/** "What it is" and the promises 1 to 20, sentence by sentence at its edges: both sides of each, and each exception. */
public final class CallEdgesTest extends YardChecks {
    public static void main(String[] args) {
        newObject();
        hostAnswers();
        hostRefusesNone();
        hostRefusesWhileItRuns();
        archiveAnswersHowItStood();
        archiveComesInstead();
        archiveGoesNoWaysOfTheOldOne();
        archiveRefusesWrongArguments();
        archiveRefusesActive();
        needAnswersHowMany();
        needRefusesWithoutArchive();
        needRefusesWrongPlugins();
        needRefusesNoVersion();
        needRefusesActive();
        needRefusesTheFifth();
        clsAnswersWhetherThereWasOne();
        clsRefuses();
        waysAnswersWhatWasMasked();
        waysRefuses();
        extensionAnswersHowMany();
        extensionRefuses();
        enableAnswersWhetherItWas();
        enableRefuses();
        startAnswersHowManyAreActive();
        startRefusesWhileItRuns();
        loadAnswers();
        loadLeavesWhatIsActive();
        loadRefuses();
        stopAnswersHowMany();
        stopLeavesOptionalOnes();
        stopRefuses();
        shutdownAnswersHowMany();
        shutdownRefuses();
        seeRefuses();
        linkOfOneClass();
        linkAsItsOwnerSees();
        linkWraps();
        linkOfSixteen();
        linkOfSeventeen();
        linkRefuses();
        uberRefuses();
        extendedUpToTheLast();
        extendedRefuses();
        weightOfTheFirstFirst();
        weightRefuses();
        lookAtFirst();
        lookAsItWasResolvedLast();
        lookUntilTheNextResolving();
        lookRefuses();
        countArchivesAndActive();
        countStartsAndStops();
        countRefuses();
        fiveHundredAndTwelveCalls();
        CHECKS.end();
    }

    private static void newObject() {
        CHECKS.promise("1: the host has VERSION 1, does not run; no ARCHIVES");
        PluginYard x = new PluginYard();
        looks(x, STAND, 0, 0, 0, 0, 0, 0, 0, 0, 0, 0, 0, 0);
        counts(x, 0, 0);
        CHECKS.refuses(STATE, "shutdown", x::shutdown);
        CHECKS.answers(-1, "host(1-z)", () -> x.host(v("1-z")));
        CHECKS.answers(0, "host(1.0)", () -> new PluginYard().host(v("1.0")));
        CHECKS.answers(1, "host(1.0.0.1)", () -> new PluginYard().host(v("1.0.0.1")));
        PluginYard y = new PluginYard();
        y.archive(0, v("1"), v("1.0"));
        y.archive(1, v("1"), v("1.0.0.1"));
        CHECKS.answers(1, "start", y::start);
        causes(y, 0, 2);
        PluginYard other = new PluginYard();
        counts(other, 0, 0);
        CHECKS.answers(0, "start of another one", other::start);
    }

    private static void hostAnswers() {
        CHECKS.promise("2: -1, 0 or 1 as it is below, like or above the one before");
        PluginYard x = new PluginYard();
        CHECKS.answers(1, "host(99999999)", () -> x.host(v("99999999")));
        CHECKS.answers(-1, "host(99999998)", () -> x.host(v("99999998")));
        CHECKS.answers(0, "host(99999998)", () -> x.host(v("99999998")));
        CHECKS.answers(-1, "host(alpha)", () -> x.host(v("alpha")));
        CHECKS.answers(0, "host(alpha.0)", () -> x.host(v("alpha.0")));
        CHECKS.answers(1, "host(alpha.1)", () -> x.host(v("alpha.1")));
        CHECKS.answers(-1, "host(alpha-z)", () -> x.host(v("alpha-z")));
    }

    private static void hostRefusesNone() {
        CHECKS.promise("2: IllegalArgumentException: it is none");
        PluginYard x = new PluginYard();
        refusesAndKeeps(x, ARGUMENT, "host(0)", () -> x.host(0));
        CHECKS.refuses(ARGUMENT, "host(9.)", () -> x.host(v("9.")));
        CHECKS.refuses(ARGUMENT, "host(.9)", () -> x.host(v(".9")));
        CHECKS.answers(0, "host(1) after refused ones", () -> x.host(v("1")));
    }

    private static void hostRefusesWhileItRuns() {
        CHECKS.promise("2: IllegalStateException: the host runs");
        PluginYard x = new PluginYard();
        x.start();
        refusesAndKeeps(x, STATE, "host(2)", () -> x.host(v("2")));
        CHECKS.refuses(STATE, "host(1), the same", () -> x.host(v("1")));
        CHECKS.refuses(ARGUMENT, "host(0) while it runs", () -> x.host(0));
        x.shutdown();
        CHECKS.answers(0, "host(1) after the shutdown", () -> x.host(v("1")));
    }

    private static void archiveAnswersHowItStood() {
        CHECKS.promise("3: how that one stood");
        PluginYard x = new PluginYard();
        for (int p : new int[] {0, 11}) {
            CHECKS.answers(PluginYard.NONE, "archive(" + p + "), none", () -> x.archive(p, v("1"), v("1")));
            CHECKS.answers(PluginYard.THERE, "archive(" + p + "), there", () -> x.archive(p, v("1"), v("1")));
            fails(x, p);
        }
        x.start();
        CHECKS.answers(PluginYard.FAILED, "archive(11), failed", () -> x.archive(11, v("1"), v("1")));
        CHECKS.answers(PluginYard.THERE, "archive(11), there again", () -> x.archive(11, v("1"), v("1")));
        x.load(11);
        x.stop(11);
        CHECKS.answers(PluginYard.STOPPED, "archive(11), stopped", () -> x.archive(11, v("1"), v("1")));
        CHECKS.answers(PluginYard.THERE, "look(11, 0)", () -> x.look(11, STAND));
        x.shutdown();
        CHECKS.answers(PluginYard.FAILED, "archive(0), failed, the host does not run", () -> x.archive(0, v("1"), v("1")));
    }

    private static void archiveComesInstead() {
        CHECKS.promise("3: a new ARCHIVE, instead of one that was there");
        PluginYard x = yard(6);
        needs(x, 0, 1, 2, 3, 4);
        for (int name = 0; name < 16; name++) {
            x.cls(0, name, 1, name);
        }
        for (int k = 0; k < 4; k++) {
            x.extension(0, k, 1, 0);
        }
        x.ways(0, 65535, true, true);
        x.archive(0, v("2"), v("1"));
        CHECKS.answers(0, "what was MASKED", () -> x.ways(0, 0, false, false));
        CHECKS.answers(1, "how many NEEDS", () -> x.need(0, 4, v("1"), true));
        CHECKS.answers(1, "how many EXTENSIONS", () -> x.extension(0, 3, 2, 1));
        x.need(5, 0, v("2"), false);
        CHECKS.answers(6, "start", x::start);
        for (int name = 2; name < 16; name++) {
            seesNone(x, 0, name);
        }
        sees(x, 0, 0, 1000);
        counts(x, 0, 6);
    }

    private static void archiveGoesNoWaysOfTheOldOne() {
        CHECKS.promise("3: a new ARCHIVE is not FIRST, nor does it mask or FAIL, because one before it did");
        PluginYard x = yard(2);
        needs(x, 1, 0);
        has(x, 0, 5, 50);
        x.ways(1, 1 << 6, true, true);
        x.archive(1, v("1"), v("1"));
        needs(x, 1, 0);
        has(x, 0, 6, 60);
        has(x, 1, 5, 51);
        has(x, 1, 6, 61);
        CHECKS.answers(2, "start", x::start);
        sees(x, 1, 5, 50);
        sees(x, 1, 6, 60);
    }

    private static void archiveRefusesWrongArguments() {
        CHECKS.promise("3: IllegalArgumentException: p is not 0..11, or a VERSION is none");
        PluginYard x = yard(1);
        has(x, 0, 5, 50);
        for (int p : outside(0, 11)) {
            CHECKS.refuses(ARGUMENT, "archive(" + p + ", 1, 1)", () -> x.archive(p, v("1"), v("1")));
        }
        refusesAndKeeps(x, ARGUMENT, "archive(0, none, 1)", () -> x.archive(0, v("1."), v("1")));
        CHECKS.refuses(ARGUMENT, "archive(0, 1, none)", () -> x.archive(0, v("1"), v("-")));
        CHECKS.refuses(ARGUMENT, "archive(1, none, none)", () -> x.archive(1, 0, 0));
        counts(x, 0, 1);
        x.start();
        sees(x, 0, 5, 50);
    }

    private static void archiveRefusesActive() {
        CHECKS.promise("3: IllegalStateException: it is ACTIVE");
        PluginYard x = yard(2);
        has(x, 0, 5, 50);
        x.extension(0, 0, 8, 5);
        x.enable(1, false);
        x.start();
        refusesAndKeeps(x, STATE, "archive(0)", () -> x.archive(0, v("1"), v("1")));
        sees(x, 0, 5, 50);
        CHECKS.refuses(ARGUMENT, "archive(0, none, 1)", () -> x.archive(0, 0, v("1")));
        CHECKS.answers(PluginYard.THERE, "archive(1), not ACTIVE while the host runs", () -> x.archive(1, v("1"), v("1")));
        x.shutdown();
        CHECKS.answers(PluginYard.STOPPED, "archive(0) after the shutdown", () -> x.archive(0, v("1"), v("1")));
    }

    private static void needAnswersHowMany() {
        CHECKS.promise("4: a further NEED: how many it has");
        PluginYard x = new PluginYard();
        x.archive(5, v("1"), v("1"));
        x.archive(6, v("1"), v("1"));
        int[] others = {0, 11, 4, 6};
        for (int k = 0; k < others.length; k++) {
            int q = others[k];
            CHECKS.answers(k + 1, "need(5, " + q + ")", () -> x.need(5, q, v("1"), q > 5));
        }
        CHECKS.answers(1, "need(6, 0): each PLUGIN has its own", () -> x.need(6, 0, v("1"), false));
    }

    private static void needRefusesWithoutArchive() {
        CHECKS.promise("4: NoSuchElementException: there is no ARCHIVE of p");
        PluginYard x = yard(1);
        for (int p : outside(0, 11)) {
            CHECKS.refuses(NO_SUCH, "need(" + p + ", 0)", () -> x.need(p, 0, v("1"), true));
        }
        CHECKS.refuses(NO_SUCH, "need(1, 0)", () -> x.need(1, 0, v("1"), true));
        CHECKS.refuses(NO_SUCH, "need(11, 11) without a VERSION", () -> x.need(11, 11, 0, true));
        refusesAndKeeps(x, NO_SUCH, "need(1, 12)", () -> x.need(1, 12, v("1"), true));
        CHECKS.answers(1, "need(0, 1), of one without an ARCHIVE", () -> x.need(0, 1, v("1"), true));
    }

    private static void needRefusesWrongPlugins() {
        CHECKS.promise("4: IllegalArgumentException: q is not 0..11, or is p, or it has one of q");
        PluginYard x = yard(12);
        for (int q : outside(0, 11)) {
            CHECKS.refuses(ARGUMENT, "need(0, " + q + ")", () -> x.need(0, q, v("1"), true));
        }
        CHECKS.refuses(ARGUMENT, "need(0, 0)", () -> x.need(0, 0, v("1"), true));
        CHECKS.refuses(ARGUMENT, "need(11, 11)", () -> x.need(11, 11, v("1"), false));
        CHECKS.answers(1, "need(0, 11)", () -> x.need(0, 11, v("1"), true));
        CHECKS.answers(1, "need(11, 0)", () -> x.need(11, 0, v("1"), true));
        CHECKS.refuses(ARGUMENT, "need(0, 11) again", () -> x.need(0, 11, v("1"), true));
        CHECKS.refuses(ARGUMENT, "need(0, 11) from another VERSION on", () -> x.need(0, 11, v("2"), false));
        CHECKS.answers(2, "need(0, 10)", () -> x.need(0, 10, v("1"), true));
        CHECKS.answers(3, "need(0, 9)", () -> x.need(0, 9, v("1"), true));
        CHECKS.refuses(ARGUMENT, "need(0, 10), not the last one, again", () -> x.need(0, 10, v("1"), true));
        CHECKS.answers(4, "need(0, 8)", () -> x.need(0, 8, v("1"), true));
        for (int q : new int[] {8, 9, 10, 11, 0, 12}) {
            CHECKS.refuses(ARGUMENT, "need(0, " + q + ") where it has 4", () -> x.need(0, q, v("1"), true));
        }
        x.archive(0, v("1"), v("1"));
        CHECKS.answers(1, "need(0, 11) of a new ARCHIVE", () -> x.need(0, 11, v("1"), true));
    }

    private static void needRefusesNoVersion() {
        CHECKS.promise("4: IllegalArgumentException: version is none");
        PluginYard x = yard(1);
        CHECKS.refuses(ARGUMENT, "need(0, 1, 0)", () -> x.need(0, 1, 0, true));
        CHECKS.refuses(ARGUMENT, "need(0, 1, 1.)", () -> x.need(0, 1, v("1."), false));
        CHECKS.answers(1, "need(0, 1, 1.1)", () -> x.need(0, 1, v("1.1"), true));
        needs(x, 0, 2, 3, 4);
        CHECKS.refuses(ARGUMENT, "need(0, 5, 0) where it has 4", () -> x.need(0, 5, 0, true));
    }

    private static void needRefusesActive() {
        CHECKS.promise("4: IllegalStateException: it is ACTIVE");
        PluginYard x = yard(3);
        mayNeed(x, 0, 4, 5, 6, 7);
        fails(x, 2);
        x.start();
        refusesAndKeeps(x, STATE, "need(1, 0)", () -> x.need(1, 0, v("1"), true));
        CHECKS.refuses(STATE, "need(0, 1) where it has 4", () -> x.need(0, 1, v("1"), true));
        CHECKS.refuses(ARGUMENT, "need(0, 4), which it has", () -> x.need(0, 4, v("1"), true));
        CHECKS.refuses(ARGUMENT, "need(1, 1)", () -> x.need(1, 1, v("1"), true));
        CHECKS.answers(1, "need(2, 0) of one that FAILED", () -> x.need(2, 0, v("1"), true));
        x.stop(1);
        CHECKS.answers(1, "need(1, 0) of one that is STOPPED", () -> x.need(1, 0, v("1"), true));
    }

    private static void needRefusesTheFifth() {
        CHECKS.promise("4: IndexOutOfBoundsException: it has 4");
        PluginYard x = yard(1);
        needs(x, 0, 1, 2, 3);
        CHECKS.answers(4, "the fourth", () -> x.need(0, 4, v("1"), false));
        refusesAndKeeps(x, BOUNDS, "the fifth", () -> x.need(0, 5, v("1"), false));
        CHECKS.refuses(BOUNDS, "the fifth, an optional one", () -> x.need(0, 6, v("1"), true));
        x.archive(0, v("1"), v("1"));
        CHECKS.answers(1, "the first of a new ARCHIVE", () -> x.need(0, 5, v("1"), false));
    }

    private static void clsAnswersWhetherThereWasOne() {
        CHECKS.promise("5: its class of that name, instead of one that was there: 1 if there was one, else 0");
        PluginYard x = yard(2);
        for (int name : new int[] {0, 15}) {
            CHECKS.answers(0, "cls(0, " + name + ")", () -> x.cls(0, name, Integer.MIN_VALUE, -1));
            CHECKS.answers(1, "cls(0, " + name + ") again", () -> x.cls(0, name, Integer.MAX_VALUE, 15));
            CHECKS.answers(1, "cls(0, " + name + ") once more", () -> x.cls(0, name, 0, 0));
        }
        CHECKS.answers(0, "cls(0, 14)", () -> x.cls(0, 14, 1, 15));
        CHECKS.answers(0, "cls(1, 15): each PLUGIN has its own", () -> x.cls(1, 15, 5, -1));
        x.start();
        sees(x, 0, 15, 0);
        sees(x, 1, 15, 5);
        CHECKS.answers(1001, "link(0, 14): what came instead refers on", () -> x.link(0, 14));
    }

    private static void clsRefuses() {
        CHECKS.promise("5: NoSuchElementException likewise; IllegalArgumentException: name is not 0..15, or refers not -1..15");
        PluginYard x = yard(1);
        x.cls(0, 5, 50, -1);
        x.start();
        for (int p : outside(0, 11)) {
            CHECKS.refuses(NO_SUCH, "cls(" + p + ", 5)", () -> x.cls(p, 5, 1, -1));
        }
        refusesAndKeeps(x, NO_SUCH, "cls(1, 16, 1, 16)", () -> x.cls(1, 16, 1, 16));
        for (int name : outside(0, 15)) {
            CHECKS.refuses(ARGUMENT, "cls(0, " + name + ")", () -> x.cls(0, name, 1, -1));
        }
        for (int refers : outside(-1, 15)) {
            CHECKS.refuses(ARGUMENT, "cls(0, 5, 1, " + refers + ")", () -> x.cls(0, 5, 1, refers));
            CHECKS.refuses(ARGUMENT, "cls(0, 6, 1, " + refers + ")", () -> x.cls(0, 6, 1, refers));
        }
        sees(x, 0, 5, 50);
        CHECKS.answers(0, "cls(0, 6) after refused ones", () -> x.cls(0, 6, 1, -1));
    }

    private static void waysAnswersWhatWasMasked() {
        CHECKS.promise("6: the sum of 2^name that was MASKED");
        PluginYard x = yard(2);
        int before = 0;
        for (int masked : new int[] {0, 1, 32768, 65535, 65534, 0}) {
            CHECKS.answers(before, "ways(0, " + masked + ")", () -> x.ways(0, masked, false, false));
            before = masked;
        }
        CHECKS.answers(0, "ways(1, 1): each PLUGIN has its own", () -> x.ways(1, 1, false, false));
        fails(x, 0);
        CHECKS.answers(1, "start, 0 FAILS", x::start);
        x.ways(0, 0, false, false);
        CHECKS.answers(0, "load(0), it FAILS no more", () -> x.load(0));
    }

    private static void waysRefuses() {
        CHECKS.promise("6: NoSuchElementException likewise; IllegalArgumentException: masked is not 0..65535");
        PluginYard x = yard(1);
        has(x, 0, 0, 5);
        for (int p : outside(0, 11)) {
            CHECKS.refuses(NO_SUCH, "ways(" + p + ")", () -> x.ways(p, 0, false, false));
        }
        refusesAndKeeps(x, NO_SUCH, "ways(1, -1)", () -> x.ways(1, -1, false, false));
        for (int masked : outside(0, 65535)) {
            CHECKS.refuses(ARGUMENT, "ways(0, " + masked + ")", () -> x.ways(0, masked, true, true));
        }
        CHECKS.answers(1, "start: refused ones did not make it FAIL", x::start);
        sees(x, 0, 0, 1000);
        CHECKS.answers(0, "ways(0, 0): nor did they mask", () -> x.ways(0, 0, false, false));
    }

    private static void extensionAnswersHowMany() {
        CHECKS.promise("7: a further EXTENSION: how many it has");
        PluginYard x = yard(2);
        CHECKS.answers(1, "extension(0, 0, 0)", () -> x.extension(0, 0, -Double.MAX_VALUE, 0));
        CHECKS.answers(2, "extension(0, 3, 15)", () -> x.extension(0, 3, Double.MAX_VALUE, 15));
        CHECKS.answers(3, "the same again", () -> x.extension(0, 3, Double.MAX_VALUE, 15));
        CHECKS.answers(1, "extension(1): each PLUGIN has its own", () -> x.extension(1, 0, 0, 0));
        x.start();
        CHECKS.answers(4, "the fourth, of one that is ACTIVE", () -> x.extension(0, 0, 1, 1));
    }

    private static void extensionRefuses() {
        CHECKS.promise("7: its three exceptions");
        PluginYard x = yard(1);
        for (int p : outside(0, 11)) {
            CHECKS.refuses(NO_SUCH, "extension(" + p + ")", () -> x.extension(p, 0, 1, 0));
        }
        CHECKS.refuses(NO_SUCH, "extension(1, 4, 16)", () -> x.extension(1, 4, 1, 16));
        for (int point : outside(0, 3)) {
            CHECKS.refuses(ARGUMENT, "extension(0, " + point + ", 0)", () -> x.extension(0, point, 1, 0));
        }
        for (int name : outside(0, 15)) {
            CHECKS.refuses(ARGUMENT, "extension(0, 0, " + name + ")", () -> x.extension(0, 0, 1, name));
        }
        for (int k = 1; k <= 4; k++) {
            CHECKS.answers(k, "extension(0, 0, 0)", () -> x.extension(0, 0, 1, 0));
        }
        x.start();
        refusesAndKeeps(x, BOUNDS, "the fifth", () -> x.extension(0, 0, 1, 0));
        CHECKS.refuses(ARGUMENT, "the fifth at point 4", () -> x.extension(0, 4, 1, 0));
        CHECKS.refuses(ARGUMENT, "the fifth of name 16", () -> x.extension(0, 0, 1, 16));
        extendedBy(x, 0, 0, 0, 0, 0);
    }

    private static void enableAnswersWhetherItWas() {
        CHECKS.promise("8: it is ENABLED, or not: whether it was");
        PluginYard x = yard(12);
        CHECKS.answers(true, "enable(11, true)", () -> x.enable(11, true));
        CHECKS.answers(true, "enable(11, false)", () -> x.enable(11, false));
        CHECKS.answers(false, "enable(11, false) again", () -> x.enable(11, false));
        CHECKS.answers(true, "enable(0, false): each PLUGIN for itself", () -> x.enable(0, false));
        CHECKS.answers(false, "enable(0, true)", () -> x.enable(0, true));
        CHECKS.answers(11, "start", x::start);
        CHECKS.answers(true, "enable(0, false) of one that is ACTIVE", () -> x.enable(0, false));
        looks(x, STAND, PluginYard.ACTIVE);
        x.stop(0);
        CHECKS.answers(1, "load(0)", () -> x.load(0));
    }

    private static void enableRefuses() {
        CHECKS.promise("8: NoSuchElementException likewise");
        PluginYard x = yard(1);
        for (int p : outside(0, 11)) {
            CHECKS.refuses(NO_SUCH, "enable(" + p + ")", () -> x.enable(p, false));
        }
        refusesAndKeeps(x, NO_SUCH, "enable(1, false)", () -> x.enable(1, false));
        x.archive(1, v("1"), v("1"));
        CHECKS.answers(true, "enable(1, true): the refused one did not disable it", () -> x.enable(1, true));
    }

    private static void startAnswersHowManyAreActive() {
        CHECKS.promise("9: all that are there are RESOLVED and START: how many are ACTIVE");
        CHECKS.answers(0, "start of none", () -> new PluginYard().start());
        CHECKS.answers(1, "start of one", () -> yard(1).start());
        CHECKS.answers(12, "start of twelve", () -> yard(12).start());
        PluginYard x = yard(12);
        fails(x, 0);
        x.enable(11, false);
        CHECKS.answers(10, "start, one FAILED, one DISABLED", x::start);
        x.shutdown();
        x.ways(0, 0, false, false);
        CHECKS.answers(11, "start once more", x::start);
        looks(x, ACTIVE_PLACE, 0, 1, 2, 3, 4, 5, 6, 7, 8, 9, 10, -1);
    }

    private static void startRefusesWhileItRuns() {
        CHECKS.promise("9: IllegalStateException: it runs");
        PluginYard x = new PluginYard();
        x.start();
        CHECKS.refuses(STATE, "start where none is there", x::start);
        x.archive(0, v("1"), v("1"));
        refusesAndKeeps(x, STATE, "start where one is not ACTIVE", x::start);
        CHECKS.answers(0, "shutdown", x::shutdown);
        CHECKS.answers(1, "start after the shutdown", x::start);
    }

    private static void loadAnswers() {
        CHECKS.promise("10: its CAUSE, 0 if it is ACTIVE then, 7 if it FAILED");
        PluginYard x = new PluginYard();
        x.start();
        x.archive(11, v("1"), v("1"));
        x.enable(11, false);
        CHECKS.answers(1, "load(11), DISABLED", () -> x.load(11));
        x.enable(11, true);
        x.archive(11, v("1"), v("1.0.1"));
        CHECKS.answers(2, "load(11), HOST", () -> x.load(11));
        x.archive(11, v("1"), v("1"));
        mayNeed(x, 11, 0);
        x.archive(0, v("1"), v("1"));
        mayNeed(x, 0, 11);
        CHECKS.answers(3, "load(11), CYCLE", () -> x.load(11));
        x.archive(0, v("1"), v("1"));
        needs(x, 11, 1);
        CHECKS.answers(4, "load(11), MISSING", () -> x.load(11));
        x.archive(1, v("1-rc"), v("1"));
        CHECKS.answers(5, "load(11), OLD", () -> x.load(11));
        x.archive(1, v("1"), v("2"));
        CHECKS.answers(6, "load(11), BROKEN", () -> x.load(11));
        CHECKS.answers(PluginYard.THERE, "look(11, 0)", () -> x.look(11, STAND));
        counts(x, 4, 0);
        x.archive(1, v("1"), v("1"));
        CHECKS.answers(7, "load(11), its NEED is not ACTIVE", () -> x.load(11));
        x.load(1);
        fails(x, 11);
        CHECKS.answers(7, "load(11), its start FAILS", () -> x.load(11));
        x.ways(11, 0, false, false);
        CHECKS.answers(0, "load(11)", () -> x.load(11));
        CHECKS.answers(PluginYard.THERE, "look(0, 0): p alone STARTS", () -> x.look(0, STAND));
    }

    private static void loadLeavesWhatIsActive() {
        CHECKS.promise("10: what is ACTIVE stays so, whatever CAUSE it has now");
        PluginYard x = yard(4);
        needs(x, 1, 0);
        mayNeed(x, 2, 4);
        x.enable(3, false);
        x.start();
        x.enable(0, false);
        x.archive(4, v("1"), v("1"));
        needs(x, 4, 2);
        x.enable(3, true);
        CHECKS.answers(0, "load(3)", () -> x.load(3));
        causes(x, 1, 6, 3, 0, 3);
        looks(x, STAND, PluginYard.ACTIVE, PluginYard.ACTIVE, PluginYard.ACTIVE, PluginYard.ACTIVE, PluginYard.THERE);
        looks(x, PLACE, -1, -1, -1, 0, -1);
        looks(x, ACTIVE_PLACE, 0, 1, 2, 3, -1);
        x.stop(1);
        CHECKS.answers(6, "load(1), which is not ACTIVE any more", () -> x.load(1));
        looks(x, STAND, PluginYard.ACTIVE, PluginYard.STOPPED);
    }

    private static void loadRefuses() {
        CHECKS.promise("10: NoSuchElementException likewise; IllegalStateException: the host does not run, or p is ACTIVE");
        PluginYard x = yard(2);
        CHECKS.refuses(STATE, "load(0) before the start", () -> x.load(0));
        CHECKS.refuses(NO_SUCH, "load(2) before the start", () -> x.load(2));
        x.start();
        x.enable(1, false);
        for (int p : outside(0, 11)) {
            CHECKS.refuses(NO_SUCH, "load(" + p + ")", () -> x.load(p));
        }
        CHECKS.refuses(NO_SUCH, "load(2)", () -> x.load(2));
        refusesAndKeeps(x, STATE, "load(0), which is ACTIVE", () -> x.load(0));
        causes(x, 0, 0);
        x.stop(0);
        CHECKS.answers(0, "load(0), which is not ACTIVE any more", () -> x.load(0));
        causes(x, 0, 1);
        x.shutdown();
        x.enable(0, false);
        refusesAndKeeps(x, STATE, "load(0) after the shutdown", () -> x.load(0));
        causes(x, 0, 1);
    }

    private static void stopAnswersHowMany() {
        CHECKS.promise("11: it is stopped, and before it all that NEED it, and those that NEED them: how many were stopped");
        PluginYard x = yard(12);
        for (int p = 1; p < 12; p++) {
            needs(x, p, p - 1);
        }
        x.start();
        CHECKS.answers(1, "stop(11), which none needs", () -> x.stop(11));
        CHECKS.answers(2, "stop(9)", () -> x.stop(9));
        CHECKS.answers(9, "stop(0), which all need", () -> x.stop(0));
        counts(x, 1, 0);
        counts(x, 5, 12);
        PluginYard y = yard(5);
        needs(y, 0, 4);
        needs(y, 1, 4);
        needs(y, 2, 0, 1);
        y.start();
        CHECKS.answers(4, "stop(4), which 2 needs by two ways", () -> y.stop(4));
        looks(y, STAND, PluginYard.STOPPED, PluginYard.STOPPED, PluginYard.STOPPED, PluginYard.ACTIVE, PluginYard.STOPPED);
        looks(y, ACTIVE_PLACE, -1, -1, -1, 0, -1);
    }

    private static void stopLeavesOptionalOnes() {
        CHECKS.promise("11: a NEED that is not optional");
        PluginYard x = yard(4);
        mayNeed(x, 1, 0);
        needs(x, 2, 1);
        needs(x, 3, 0);
        x.start();
        CHECKS.answers(2, "stop(0)", () -> x.stop(0));
        looks(x, STAND, PluginYard.STOPPED, PluginYard.ACTIVE, PluginYard.ACTIVE, PluginYard.STOPPED);
        CHECKS.answers(2, "stop(1)", () -> x.stop(1));
    }

    private static void stopRefuses() {
        CHECKS.promise("11: NoSuchElementException: it is not ACTIVE");
        PluginYard x = yard(4);
        CHECKS.refuses(NO_SUCH, "stop(0) before the start", () -> x.stop(0));
        fails(x, 1);
        x.enable(2, false);
        x.start();
        for (int p : outside(0, 11)) {
            CHECKS.refuses(NO_SUCH, "stop(" + p + ")", () -> x.stop(p));
        }
        refusesAndKeeps(x, NO_SUCH, "stop(1), which FAILED", () -> x.stop(1));
        CHECKS.refuses(NO_SUCH, "stop(2), which is only there", () -> x.stop(2));
        CHECKS.refuses(NO_SUCH, "stop(4), of which there is no ARCHIVE", () -> x.stop(4));
        CHECKS.answers(1, "stop(3)", () -> x.stop(3));
        CHECKS.refuses(NO_SUCH, "stop(3) again", () -> x.stop(3));
        x.shutdown();
        CHECKS.refuses(NO_SUCH, "stop(0) after the shutdown", () -> x.stop(0));
        counts(x, 5, 2);
    }

    private static void shutdownAnswersHowMany() {
        CHECKS.promise("12: all that are ACTIVE are stopped; it does not run: how many they were");
        PluginYard x = yard(12);
        mayNeed(x, 0, 11);
        needs(x, 1, 2);
        x.start();
        CHECKS.answers(12, "shutdown of twelve", x::shutdown);
        looks(x, STAND, 4, 4, 4, 4, 4, 4, 4, 4, 4, 4, 4, 4);
        counts(x, 1, 0);
        counts(x, 5, 12);
        x.start();
        x.stop(2);
        CHECKS.answers(10, "shutdown of ten", x::shutdown);
        PluginYard y = yard(2);
        fails(y, 0);
        y.enable(1, false);
        y.start();
        CHECKS.answers(0, "shutdown of none", y::shutdown);
        looks(y, STAND, PluginYard.FAILED, PluginYard.THERE);
        CHECKS.answers(1, "host(2): it does not run", () -> y.host(v("2")));
    }

    private static void shutdownRefuses() {
        CHECKS.promise("12: IllegalStateException: it does not run");
        PluginYard x = yard(1);
        refusesAndKeeps(x, STATE, "shutdown before the start", x::shutdown);
        x.start();
        CHECKS.answers(1, "shutdown", x::shutdown);
        findsNone(x, 5);
        finds(x, 0, -1);
        refusesAndKeeps(x, STATE, "shutdown again", x::shutdown);
        findsNone(x, 5);
        finds(x, 0, -1);
        counts(x, 2, 2);
        counts(x, 3, 2);
    }

    private static void seeRefuses() {
        CHECKS.promise("13: its two exceptions");
        PluginYard x = yard(3);
        has(x, 0, 15, 150);
        fails(x, 1);
        CHECKS.refuses(NO_SUCH, "see(0, 15) before the start", () -> x.see(0, 15));
        x.start();
        for (int p : outside(0, 11)) {
            CHECKS.refuses(NO_SUCH, "see(" + p + ", 0)", () -> x.see(p, 0));
        }
        for (int name : outside(0, 15)) {
            CHECKS.refuses(ARGUMENT, "see(0, " + name + ")", () -> x.see(0, name));
            CHECKS.refuses(NO_SUCH, "see(1, " + name + "), which FAILED", () -> x.see(1, name));
        }
        refusesAndKeeps(x, NO_SUCH, "see(0, 14), which it does not see", () -> x.see(0, 14));
        sees(x, 0, 15, 150);
        sees(x, 0, 0, 1000);
        x.stop(0);
        CHECKS.refuses(NO_SUCH, "see(0, 15) after the stop", () -> x.see(0, 15));
    }

    private static void linkOfOneClass() {
        CHECKS.promise("14: the sum of the ints along the way");
        PluginYard x = yard(1);
        x.cls(0, 5, -50, -1);
        x.cls(0, 6, 60, 5);
        x.cls(0, 7, 70, 0);
        x.cls(0, 8, 0, 7);
        x.start();
        CHECKS.answers(-50, "link(0, 5), a class that refers to none", () -> x.link(0, 5));
        CHECKS.answers(10, "link(0, 6)", () -> x.link(0, 6));
        CHECKS.answers(1000, "link(0, 0): the host's refer to none", () -> x.link(0, 0));
        CHECKS.answers(1001, "link(0, 1)", () -> x.link(0, 1));
        CHECKS.answers(1070, "link(0, 7), to the host's", () -> x.link(0, 7));
        CHECKS.answers(1070, "link(0, 8)", () -> x.link(0, 8));
    }

    private static void linkAsItsOwnerSees() {
        CHECKS.promise("14: as the PLUGIN SEES it whose own class it is");
        PluginYard x = yard(3);
        needs(x, 1, 0);
        needs(x, 2, 1);
        x.cls(0, 5, 50, 6);
        x.cls(0, 6, 60, -1);
        x.cls(2, 6, 62, -1);
        x.cls(2, 7, 72, 6);
        x.cls(2, 8, 82, 5);
        x.ways(2, 0, true, false);
        x.start();
        CHECKS.answers(134, "link(2, 7): 2 SEES its own 6", () -> x.link(2, 7));
        CHECKS.answers(110, "link(2, 5): 0 SEES its own 6", () -> x.link(2, 5));
        CHECKS.answers(192, "link(2, 8): from 2 to 0", () -> x.link(2, 8));
        x.cls(0, 5, 50, 7);
        CHECKS.refuses(NO_SUCH, "link(2, 5): 0 does not see 7, though 2 does", () -> x.link(2, 5));
        x.cls(1, 6, 61, 8);
        CHECKS.answers(60, "link(1, 6): the class of 0 refers to none, though that of 1 does", () -> x.link(1, 6));
    }

    private static void linkWraps() {
        CHECKS.promise("14: it wraps");
        PluginYard x = yard(1);
        x.cls(0, 5, Integer.MAX_VALUE, 6);
        x.cls(0, 6, 1, -1);
        x.cls(0, 7, Integer.MIN_VALUE, 8);
        x.cls(0, 8, -1, -1);
        x.start();
        CHECKS.answers(Integer.MIN_VALUE, "link(0, 5)", () -> x.link(0, 5));
        CHECKS.answers(Integer.MAX_VALUE, "link(0, 7)", () -> x.link(0, 7));
        x.cls(0, 6, 0, -1);
        CHECKS.answers(Integer.MAX_VALUE, "link(0, 5), which does not wrap", () -> x.link(0, 5));
    }

    /** A way of that many classes from class 3 of PLUGIN 0 on: first those of 0, each of 100, then the 13 of PLUGIN 1, each of 1. */
    private static PluginYard chain(int length) {
        PluginYard x = yard(2);
        needs(x, 0, 1);
        x.ways(0, 0, true, false);
        int ofZero = length - 13;
        for (int k = 0; k < ofZero; k++) {
            x.cls(0, 3 + k, 100, 4 + k);
        }
        // 0 has no class 2 of its own: from there on the way is that of 1.
        x.cls(0, 3 + ofZero - 1, 100, 2);
        for (int name = 2; name < 15; name++) {
            x.cls(1, name, 1, name + 1);
        }
        x.cls(1, 14, 1, -1);
        return x;
    }

    private static void linkOfSixteen() {
        CHECKS.promise("14: a way of 16 classes");
        PluginYard x = chain(15);
        x.start();
        CHECKS.answers(213, "link(0, 3), 15 classes", () -> x.link(0, 3));
        PluginYard y = chain(16);
        y.start();
        CHECKS.answers(313, "link(0, 3), 16 classes", () -> y.link(0, 3));
        CHECKS.answers(213, "link(0, 4), 15 classes", () -> y.link(0, 4));
    }

    private static void linkOfSeventeen() {
        CHECKS.promise("14: IllegalStateException: the way would be longer than 16 classes");
        PluginYard x = chain(17);
        x.start();
        refusesAndKeeps(x, STATE, "link(0, 3), 17 classes", () -> x.link(0, 3));
        CHECKS.answers(313, "link(0, 4), 16 classes", () -> x.link(0, 4));
        PluginYard y = chain(16);
        y.cls(1, 14, 1, 0);
        y.start();
        CHECKS.refuses(STATE, "link(0, 3), the 17th is the host's", () -> y.link(0, 3));
        CHECKS.answers(1213, "link(0, 4), the 16th is the host's", () -> y.link(0, 4));
        y.cls(1, 5, 1, 5);
        CHECKS.refuses(STATE, "link(1, 5), which refers to itself", () -> y.link(1, 5));
        y.cls(1, 5, 1, 6);
        y.cls(1, 6, 1, 5);
        CHECKS.refuses(STATE, "link(1, 5), two that refer to each other", () -> y.link(1, 5));
        PluginYard z = chain(16);
        z.cls(1, 14, 1, 15);
        z.start();
        CHECKS.refuses(STATE, "link(0, 3), the 17th would not be seen", () -> z.link(0, 3));
        CHECKS.refuses(NO_SUCH, "link(0, 4), the 16th is not seen", () -> z.link(0, 4));
    }

    private static void linkRefuses() {
        CHECKS.promise("14: NoSuchElementException and IllegalArgumentException");
        PluginYard x = yard(2);
        x.cls(0, 5, 50, 6);
        x.cls(0, 6, 60, 15);
        fails(x, 1);
        CHECKS.refuses(NO_SUCH, "link(0, 0) before the start", () -> x.link(0, 0));
        x.start();
        for (int p : outside(0, 11)) {
            CHECKS.refuses(NO_SUCH, "link(" + p + ", 0)", () -> x.link(p, 0));
        }
        for (int name : outside(0, 15)) {
            CHECKS.refuses(ARGUMENT, "link(0, " + name + ")", () -> x.link(0, name));
            CHECKS.refuses(NO_SUCH, "link(1, " + name + "), which FAILED", () -> x.link(1, name));
        }
        CHECKS.refuses(NO_SUCH, "link(0, 15), not seen", () -> x.link(0, 15));
        CHECKS.refuses(NO_SUCH, "link(0, 6), the second is not seen", () -> x.link(0, 6));
        CHECKS.refuses(NO_SUCH, "link(0, 5), the third is not seen", () -> x.link(0, 5));
        x.cls(0, 15, 150, -1);
        CHECKS.answers(260, "link(0, 5), all are seen", () -> x.link(0, 5));
        CHECKS.answers(150, "link(0, 15)", () -> x.link(0, 15));
    }

    private static void uberRefuses() {
        CHECKS.promise("15: -1 for the host; NoSuchElementException: none; IllegalArgumentException: name likewise");
        PluginYard x = yard(12);
        has(x, 11, 15, 1);
        x.start();
        for (int name : outside(0, 15)) {
            refusesName(x, name);
        }
        counts(x, 2, 0);
        counts(x, 3, 0);
        finds(x, 0, -1);
        finds(x, 1, -1);
        findsNone(x, 2);
        findsNone(x, 14);
        finds(x, 15, 11);
        counts(x, 2, 5);
    }

    private static void refusesName(PluginYard x, int name) {
        CHECKS.refuses(ARGUMENT, "uber(" + name + ")", () -> x.uber(name));
    }

    private static void extendedUpToTheLast() {
        CHECKS.promise("16: the PLUGIN of the k-th EXTENSION (0 first) of a point");
        PluginYard x = yard(12);
        int[] want = new int[48];
        for (int p = 0; p < 12; p++) {
            for (int k = 0; k < 4; k++) {
                x.extension(p, 3, k, 1);
                want[(3 - k) * 12 + p] = p;
            }
        }
        x.start();
        extendedBy(x, 3, want);
    }

    private static void extendedRefuses() {
        CHECKS.promise("16: IndexOutOfBoundsException: there is none; IllegalArgumentException: point is not 0..3");
        PluginYard x = yard(1);
        x.extension(0, 0, 1, 0);
        x.extension(0, 3, 1, 0);
        CHECKS.refuses(BOUNDS, "extended(0, 0) before the start", () -> x.extended(0, 0));
        x.start();
        for (int point : new int[] {0, 3}) {
            CHECKS.answers(0, "extended(" + point + ", 0)", () -> x.extended(point, 0));
            for (int k : outside(0, 0)) {
                CHECKS.refuses(BOUNDS, "extended(" + point + ", " + k + ")", () -> x.extended(point, k));
            }
        }
        CHECKS.refuses(BOUNDS, "extended(1, 0), a point without any", () -> x.extended(1, 0));
        for (int point : outside(0, 3)) {
            CHECKS.refuses(ARGUMENT, "extended(" + point + ", 0)", () -> x.extended(point, 0));
            CHECKS.refuses(ARGUMENT, "extended(" + point + ", -1)", () -> x.extended(point, -1));
        }
    }

    private static void weightOfTheFirstFirst() {
        CHECKS.promise("17: the sum of the weights of the EXTENSIONS of a point, the first one first");
        PluginYard x = yard(3);
        CHECKS.answers(0.0, "weight(0) of none", () -> x.weight(0));
        x.extension(0, 0, 1, 0);
        x.extension(1, 0, 1, 0);
        x.extension(2, 0, 1e16, 0);
        x.extension(2, 0, -1e16, 0);
        x.extension(0, 3, 0.3, 0);
        x.extension(1, 3, 0.2, 0);
        x.extension(2, 3, 0.1, 0);
        x.extension(2, 1, Double.MIN_VALUE, 0);
        CHECKS.answers(0.0, "weight(0) before the start", () -> x.weight(0));
        x.start();
        CHECKS.answers(0.0, "weight(0): 1e16 and 1 is 1e16", () -> x.weight(0));
        CHECKS.answers(0.3 + 0.2 + 0.1, "weight(3)", () -> x.weight(3));
        CHECKS.answers(Double.MIN_VALUE, "weight(1) of one", () -> x.weight(1));
        CHECKS.answers(0.0, "weight(2) of none", () -> x.weight(2));
        x.extension(0, 2, Double.MAX_VALUE, 0);
        x.extension(1, 2, -Double.MAX_VALUE, 0);
        CHECKS.answers(0.0, "weight(2) of the greatest and the least", () -> x.weight(2));
        x.stop(1);
        CHECKS.answers(Double.MAX_VALUE, "weight(2) after a stop", () -> x.weight(2));
    }

    private static void weightRefuses() {
        CHECKS.promise("17: IllegalArgumentException likewise");
        PluginYard x = running(1);
        for (int point : outside(0, 3)) {
            CHECKS.refuses(ARGUMENT, "weight(" + point + ")", () -> x.weight(point));
        }
        for (int point = 0; point <= 3; point++) {
            int taken = point;
            CHECKS.answers(0.0, "weight(" + point + ")", () -> x.weight(taken));
        }
    }

    private static void lookAtFirst() {
        CHECKS.promise("18: where there is nothing to tell");
        PluginYard x = yard(1);
        for (int p : new int[] {0, 11}) {
            CHECKS.answers(p == 0 ? PluginYard.THERE : PluginYard.NONE, "how " + p + " stands", () -> x.look(p, STAND));
            CHECKS.answers(0, "the CAUSE of " + p + ", if never", () -> x.look(p, CAUSE));
            CHECKS.answers(-1, "the place of " + p + " in the ORDER, if none", () -> x.look(p, PLACE));
            CHECKS.answers(-1, "the NEED of " + p + ", if none", () -> x.look(p, BLAMED));
            CHECKS.answers(-1, "the place of " + p + " among those that are ACTIVE, if none", () -> x.look(p, ACTIVE_PLACE));
        }
    }

    private static void lookAsItWasResolvedLast() {
        CHECKS.promise("18: as it was RESOLVED last");
        PluginYard x = yard(3);
        needs(x, 0, 2);
        needs(x, 1, 2, 11);
        x.start();
        looks(x, STAND, PluginYard.ACTIVE, PluginYard.THERE, PluginYard.ACTIVE);
        causes(x, 0, 4, 0);
        looks(x, PLACE, 1, -1, 0);
        looks(x, BLAMED, -1, 1, -1);
        looks(x, ACTIVE_PLACE, 1, -1, 0);
        x.enable(2, false);
        x.archive(11, v("1"), v("1"));
        x.archive(1, v("1"), v("1"));
        x.stop(2);
        looks(x, STAND, PluginYard.STOPPED, PluginYard.THERE, PluginYard.STOPPED);
        causes(x, 0, 4, 0);
        looks(x, PLACE, 1, -1, 0);
        looks(x, BLAMED, -1, 1, -1);
        looks(x, ACTIVE_PLACE, -1, -1, -1);
        CHECKS.answers(0, "load(1)", () -> x.load(1));
        causes(x, 6, 0, 1);
        looks(x, PLACE, -1, 0, -1);
        looks(x, BLAMED, 0, -1, -1);
        looks(x, ACTIVE_PLACE, -1, 0, -1);
        CHECKS.answers(1, "the place of 11 in the ORDER", () -> x.look(11, PLACE));
        x.shutdown();
        causes(x, 6, 0, 1);
        looks(x, PLACE, -1, 0, -1);
    }

    private static void lookUntilTheNextResolving() {
        CHECKS.promise("18: as it was RESOLVED last, whatever was called since");
        PluginYard x = yard(5);
        needs(x, 1, 0, 11);
        x.enable(2, false);
        fails(x, 3);
        x.start();
        x.enable(4, false);
        CHECKS.answers(1, "load(2)", () -> x.load(2));
        resolvedAsBefore(x, "load");
        x.enable(2, true);
        x.enable(0, false);
        resolvedAsBefore(x, "enable");
        x.need(1, 2, v("1"), false);
        x.need(3, 11, v("1"), false);
        resolvedAsBefore(x, "need");
        x.stop(0);
        x.stop(4);
        resolvedAsBefore(x, "stop");
        x.shutdown();
        resolvedAsBefore(x, "shutdown");
        x.host(v("0"));
        resolvedAsBefore(x, "host");
        for (int p : new int[] {0, 1, 2, 3, 4, 11}) {
            x.archive(p, v("2"), v("2"));
        }
        resolvedAsBefore(x, "archive");
        x.host(v("2"));
        x.enable(0, true);
        CHECKS.answers(5, "start", x::start);
        causes(x, 0, 0, 0, 0, 1);
        looks(x, PLACE, 0, 1, 2, 3, -1);
        looks(x, BLAMED, -1, -1, -1, -1, -1);
    }

    private static void resolvedAsBefore(PluginYard x, String call) {
        CHECKS.promise("18: as it was RESOLVED last, after " + call);
        causes(x, 0, 4, 1, 0, 1);
        looks(x, PLACE, 0, -1, -1, 1, -1);
        looks(x, BLAMED, -1, 1, -1, -1, -1);
    }

    private static void lookRefuses() {
        CHECKS.promise("18: IllegalArgumentException: p is not 0..11, or for others");
        PluginYard x = running(12);
        for (int p : outside(0, 11)) {
            CHECKS.refuses(ARGUMENT, "look(" + p + ", 0)", () -> x.look(p, 0));
            CHECKS.refuses(ARGUMENT, "look(" + p + ", 5)", () -> x.look(p, 5));
        }
        for (int what : outside(0, 4)) {
            CHECKS.refuses(ARGUMENT, "look(0, " + what + ")", () -> x.look(0, what));
            CHECKS.refuses(ARGUMENT, "look(11, " + what + ")", () -> x.look(11, what));
        }
        CHECKS.answers(PluginYard.ACTIVE, "look(11, 0)", () -> x.look(11, STAND));
        CHECKS.answers(11, "look(11, 4)", () -> x.look(11, ACTIVE_PLACE));
    }

    private static void countArchivesAndActive() {
        CHECKS.promise("20: 0: ARCHIVES; 1: ACTIVE ones");
        PluginYard x = yard(12);
        x.archive(11, v("2"), v("1"));
        counts(x, 0, 12);
        counts(x, 1, 0);
        x.start();
        counts(x, 1, 12);
        x.stop(0);
        counts(x, 0, 12);
        counts(x, 1, 11);
        x.shutdown();
        counts(x, 0, 12);
        counts(x, 1, 0);
    }

    private static void countStartsAndStops() {
        CHECKS.promise("20: 4: starts done, FAILED ones, too; 5: stops");
        PluginYard x = yard(4);
        fails(x, 0);
        needs(x, 1, 0);
        x.enable(3, false);
        counts(x, 4, 0);
        x.start();
        counts(x, 4, 3);
        counts(x, 5, 0);
        x.load(3);
        counts(x, 4, 3);
        x.load(0);
        counts(x, 4, 4);
        Checks.outcome(() -> x.load(2));
        counts(x, 4, 4);
        x.ways(0, 0, false, false);
        x.load(0);
        x.load(1);
        counts(x, 4, 6);
        x.stop(0);
        counts(x, 5, 2);
        Checks.outcome(() -> x.stop(0));
        counts(x, 5, 2);
        x.shutdown();
        counts(x, 5, 3);
    }

    private static void countRefuses() {
        CHECKS.promise("20: IllegalArgumentException for others");
        PluginYard x = running(1);
        for (int what : outside(0, 5)) {
            CHECKS.refuses(ARGUMENT, "count(" + what + ")", () -> x.count(what));
        }
        for (int what = 0; what <= 5; what++) {
            counts(x, what, what == 0 || what == 1 || what == 4 ? 1 : 0);
        }
    }

    private static void fiveHundredAndTwelveCalls() {
        CHECKS.promise("an object is used for 512 calls: the last one answers, too");
        PluginYard x = yard(1);
        x.start();
        for (int call = 2; call < 510; call += 2) {
            CHECKS.answers(1, "stop(0)", () -> x.stop(0));
            CHECKS.answers(0, "load(0)", () -> x.load(0));
        }
        counts(x, 4, 255);
        counts(x, 5, 254);
        PluginYard y = new PluginYard();
        for (int call = 0; call < 511; call++) {
            finds(y, 1, -1);
        }
        counts(y, 3, 510);
        PluginYard z = new PluginYard();
        for (int call = 0; call < 511; call += 7) {
            z.archive(11, v("1"), v("1"));
            mayNeed(z, 11, 0, 1, 2, 3);
            z.extension(11, 0, 1, 0);
            has(z, 11, 15, 1);
        }
        CHECKS.answers(1, "start as the 512th call", z::start);
    }
}
