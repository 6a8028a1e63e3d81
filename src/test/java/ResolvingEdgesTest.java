/** "Terms", PLUGINS, ARCHIVES, RESOLVING, the ORDER and START, sentence by sentence at its edges. */
public final class ResolvingEdgesTest extends YardChecks {
    private static final int DISABLED = 1, HOST = 2, CYCLE = 3, MISSING = 4, OLD = 5, BROKEN = 6;

    public static void main(String[] args) {
        pluginsZeroToEleven();
        archiveIsThereOrNot();
        upToFourNeeds();
        anArchiveAtFirst();
        enabledAtFirst();
        anotherArchiveLeavesEnabled();
        onlyThoseThatAreThere();
        theFirstCauseThatIsSo();
        hostBelow();
        shortestAndLongestCycle();
        cycleOfOptionalNeeds();
        besideACycle();
        cycleThroughThoseThatAreThere();
        missingOnes();
        oldOnes();
        brokenOnes();
        oldBeforeBroken();
        theFirstNeedCounts();
        byWhatIsSoAtThatMoment();
        oneAfterTheOther();
        asLongAsAnyChanges();
        optionalNeedThatCounts();
        otherNeedsAlwaysCount();
        orderOfNone();
        leastFirst();
        needsFirst();
        startOfNone();
        startFails();
        startWithoutWhatItNeeds();
        optionalDoesNotMatter();
        CHECKS.end();
    }

    private static void pluginsZeroToEleven() {
        CHECKS.promise("PLUGINS 0..11");
        PluginYard x = new PluginYard();
        for (int p : outside(0, 11)) {
            CHECKS.refuses(ARGUMENT, "archive(" + p + ")", () -> x.archive(p, v("1"), v("1")));
        }
        counts(x, 0, 0);
        for (int p = 0; p <= 11; p++) {
            int q = p;
            CHECKS.answers(PluginYard.NONE, "archive(" + p + ")", () -> x.archive(q, v("1"), v("1")));
            counts(x, 0, p + 1);
        }
        CHECKS.answers(12, "start", x::start);
        looks(x, PLACE, 0, 1, 2, 3, 4, 5, 6, 7, 8, 9, 10, 11);
        looks(x, ACTIVE_PLACE, 0, 1, 2, 3, 4, 5, 6, 7, 8, 9, 10, 11);
    }

    private static void archiveIsThereOrNot() {
        CHECKS.promise("an ARCHIVE is there or not");
        PluginYard x = new PluginYard();
        x.archive(1, v("1"), v("1"));
        looks(x, STAND, PluginYard.NONE, PluginYard.THERE, PluginYard.NONE);
        counts(x, 0, 1);
    }

    private static void upToFourNeeds() {
        CHECKS.promise("up to 4 NEEDS: the fourth is one like the others");
        PluginYard x = yard(4);
        needs(x, 3, 0, 1, 2, 11);
        CHECKS.refuses(BOUNDS, "the fifth", () -> x.need(3, 10, v("1"), true));
        x.start();
        causes(x, 0, 0, 0, MISSING);
        looks(x, BLAMED, -1, -1, -1, 3);
        x.archive(11, v("1"), v("1"));
        has(x, 11, 7, 70);
        x.load(11);
        CHECKS.answers(0, "load(3)", () -> x.load(3));
        sees(x, 3, 7, 70);
        CHECKS.answers(2, "stop(11)", () -> x.stop(11));
    }

    private static void anArchiveAtFirst() {
        CHECKS.promise("a new ARCHIVE has no NEEDS, CLASSES, MASKED names and EXTENSIONS, is not FIRST, and its start does not FAIL");
        PluginYard x = yard(1);
        has(x, 0, 0, 5);
        x.extension(0, 0, 1, 0);
        CHECKS.answers(1, "start", x::start);
        sees(x, 0, 0, 1000);
        extendedBy(x, 0, 0);
        extendedBy(x, 1);
        for (int name = 2; name < 16; name++) {
            seesNone(x, 0, name);
        }
    }

    private static void enabledAtFirst() {
        CHECKS.promise("at first a PLUGIN is ENABLED");
        PluginYard x = yard(2);
        CHECKS.answers(true, "enable(1, true)", () -> x.enable(1, true));
        CHECKS.answers(2, "start", x::start);
        CHECKS.answers(true, "enable(0, true)", () -> x.enable(0, true));
    }

    private static void anotherArchiveLeavesEnabled() {
        CHECKS.promise("another ARCHIVE does not change whether it is ENABLED");
        PluginYard x = yard(2);
        x.enable(0, false);
        x.archive(0, v("2"), v("1"));
        x.archive(1, v("2"), v("1"));
        CHECKS.answers(1, "start", x::start);
        causes(x, DISABLED, 0);
        CHECKS.answers(false, "enable(0, true)", () -> x.enable(0, true));
        x.archive(0, v("3"), v("1"));
        CHECKS.answers(true, "enable(0, true) again", () -> x.enable(0, true));
        CHECKS.answers(0, "load(0)", () -> x.load(0));
    }

    private static void onlyThoseThatAreThere() {
        CHECKS.promise("RESOLVING, of the PLUGINS that are there");
        PluginYard x = new PluginYard();
        x.archive(1, v("1"), v("1"));
        needs(x, 1, 0);
        x.start();
        causes(x, 0, MISSING, 0);
        looks(x, STAND, PluginYard.NONE, PluginYard.THERE, PluginYard.NONE);
        looks(x, PLACE, -1, -1, -1);
        looks(x, BLAMED, -1, 0, -1);
        counts(x, 4, 0);
    }

    private static void startsWith(PluginYard x, int cause, int blamed) {
        x.start();
        CHECKS.answers(cause, "look(0, 1)", () -> x.look(0, CAUSE));
        CHECKS.answers(blamed, "look(0, 3)", () -> x.look(0, BLAMED));
        x.shutdown();
    }

    private static void theFirstCauseThatIsSo() {
        CHECKS.promise("each has a CAUSE, the first of these that is so");
        PluginYard x = new PluginYard();
        x.archive(0, v("1"), v("2"));
        x.archive(1, v("1"), v("1"));
        mayNeed(x, 0, 1);
        x.need(0, 2, v("2"), false);
        needs(x, 1, 0);
        x.enable(0, false);
        startsWith(x, DISABLED, -1);
        x.enable(0, true);
        startsWith(x, HOST, -1);
        x.host(v("2"));
        startsWith(x, CYCLE, -1);
        x.archive(1, v("1"), v("1"));
        startsWith(x, MISSING, 1);
        x.archive(2, v("1"), v("1"));
        x.enable(2, false);
        startsWith(x, OLD, 1);
        x.archive(2, v("2"), v("1"));
        startsWith(x, BROKEN, 1);
        x.enable(2, true);
        startsWith(x, 0, -1);
    }

    private static void hostBelow() {
        CHECKS.promise("HOST: the host's VERSION is below the one that it needs");
        PluginYard x = new PluginYard();
        x.host(v("1.5"));
        String[] needed = {"1.4.9", "1.5-rc", "1.5", "1.5.0.0", "1.5.0.1", "1.6-rc", "1.6", "2"};
        for (int p = 0; p < needed.length; p++) {
            x.archive(p, v("9"), v(needed[p]));
        }
        CHECKS.answers(4, "start", x::start);
        causes(x, 0, 0, 0, 0, HOST, HOST, HOST, HOST);
    }

    private static void shortestAndLongestCycle() {
        CHECKS.promise("CYCLE: from it a way of NEEDS leads back to it");
        PluginYard x = yard(3);
        needs(x, 0, 1);
        needs(x, 1, 0);
        CHECKS.answers(1, "start with a way of two", x::start);
        causes(x, CYCLE, CYCLE, 0);
        PluginYard y = yard(12);
        for (int p = 0; p < 12; p++) {
            needs(y, p, (p + 5) % 12);
        }
        CHECKS.answers(0, "start with a way of twelve", y::start);
        causes(y, CYCLE, CYCLE, CYCLE, CYCLE, CYCLE, CYCLE, CYCLE, CYCLE, CYCLE, CYCLE, CYCLE, CYCLE);
        PluginYard z = yard(12);
        for (int p = 0; p < 11; p++) {
            needs(z, p, p + 1);
        }
        CHECKS.answers(12, "start with a way of twelve that does not lead back", z::start);
        causes(z, 0, 0, 0, 0, 0, 0, 0, 0, 0, 0, 0, 0);
    }

    private static void cycleOfOptionalNeeds() {
        CHECKS.promise("CYCLE: optional NEEDS, too");
        PluginYard x = yard(4);
        mayNeed(x, 0, 1);
        mayNeed(x, 1, 0);
        x.need(2, 3, v("9"), true);
        needs(x, 3, 2);
        CHECKS.answers(0, "start", x::start);
        causes(x, CYCLE, CYCLE, CYCLE, CYCLE);
        looks(x, BLAMED, -1, -1, -1, -1);
    }

    private static void besideACycle() {
        CHECKS.promise("CYCLE: only those to which the way leads back");
        PluginYard x = yard(6);
        needs(x, 0, 1);
        needs(x, 1, 0, 5);
        needs(x, 2, 0);
        mayNeed(x, 3, 0);
        needs(x, 4, 3);
        CHECKS.answers(3, "start", x::start);
        causes(x, CYCLE, CYCLE, BROKEN, 0, 0, 0);
    }

    private static void cycleThroughThoseThatAreThere() {
        CHECKS.promise("CYCLE: through PLUGINS that are there");
        PluginYard x = yard(2);
        mayNeed(x, 0, 2);
        needs(x, 1, 0);
        CHECKS.answers(2, "start without 2", x::start);
        causes(x, 0, 0, 0);
        x.shutdown();
        x.archive(2, v("1"), v("9"));
        needs(x, 2, 1);
        x.enable(1, false);
        CHECKS.answers(0, "start with 2, whose host is too old, and 1, which is disabled", x::start);
        causes(x, CYCLE, DISABLED, HOST);
        x.archive(2, v("1"), v("1"));
        CHECKS.answers(0, "load(0) after another ARCHIVE of 2", () -> x.load(0));
    }

    private static void missingOnes() {
        CHECKS.promise("MISSING: a NEED that is not optional is of one that is not there");
        PluginYard x = yard(3);
        needs(x, 0, 3);
        mayNeed(x, 1, 3);
        needs(x, 2, 1);
        CHECKS.answers(2, "start", x::start);
        causes(x, MISSING, 0, 0);
        looks(x, BLAMED, 0, -1, -1);
        x.archive(3, v("1"), v("1"));
        CHECKS.answers(7, "load(0) with 3 there", () -> x.load(0));
        causes(x, 0, 0, 0, 0);
    }

    private static void oldOnes() {
        CHECKS.promise("OLD: a NEED that is not optional is of one whose VERSION is below");
        PluginYard x = yard(6);
        x.archive(0, v("1.5"), v("1"));
        x.need(1, 0, v("1.5.0"), false);
        x.need(2, 0, v("1.5.0.1"), false);
        x.need(3, 0, v("1.5-rc"), false);
        x.need(4, 0, v("1.6-rc"), false);
        x.need(5, 0, v("9"), true);
        CHECKS.answers(4, "start", x::start);
        causes(x, 0, 0, OLD, 0, OLD, 0);
        looks(x, BLAMED, -1, -1, 0, -1, 0, -1);
    }

    private static void brokenOnes() {
        CHECKS.promise("BROKEN: a NEED that is not optional is of one that has a CAUSE itself");
        PluginYard x = yard(10);
        x.enable(0, false);
        x.archive(1, v("1"), v("2"));
        needs(x, 2, 3);
        needs(x, 3, 2);
        needs(x, 4, 11);
        needs(x, 5, 0);
        mayNeed(x, 6, 0, 1, 2, 4);
        needs(x, 7, 6, 1);
        needs(x, 8, 6, 9, 4);
        CHECKS.answers(2, "start", x::start);
        causes(x, DISABLED, HOST, CYCLE, CYCLE, MISSING, BROKEN, 0, BROKEN, BROKEN, 0);
        looks(x, BLAMED, -1, -1, -1, -1, 0, 0, -1, 1, 2, -1);
        x.archive(10, v("1"), v("1"));
        needs(x, 10, 5);
        CHECKS.answers(BROKEN, "load(10), which needs one that is BROKEN", () -> x.load(10));
        x.archive(10, v("1"), v("1"));
        needs(x, 10, 2);
        CHECKS.answers(BROKEN, "load(10), which needs one in a CYCLE", () -> x.load(10));
    }

    private static void oldBeforeBroken() {
        CHECKS.promise("OLD comes before BROKEN, where one NEED makes for both");
        PluginYard x = yard(3);
        x.enable(0, false);
        x.need(1, 0, v("2"), false);
        x.need(2, 0, v("1"), false);
        x.start();
        causes(x, DISABLED, OLD, BROKEN);
    }

    private static void theFirstNeedCounts() {
        CHECKS.promise("of several NEEDS the first one that makes for 4, 5 or 6 counts");
        PluginYard x = yard(7);
        x.enable(6, false);
        int[][] orders = {{11, 5, 6}, {5, 6, 11}, {6, 11, 5}, {11, 6, 5}, {6, 5, 11}};
        for (int p = 0; p < orders.length; p++) {
            for (int q : orders[p]) {
                x.need(p, q, v(q == 5 ? "2" : "1"), false);
            }
        }
        x.start();
        causes(x, MISSING, OLD, BROKEN, MISSING, BROKEN, 0, DISABLED);
        looks(x, BLAMED, 0, 0, 0, 0, 0, -1, -1);
    }

    private static void byWhatIsSoAtThatMoment() {
        CHECKS.promise("PLUGIN 0 first, one after the other, by what is so at that moment");
        PluginYard x = yard(4);
        x.enable(1, false);
        needs(x, 0, 2, 1);
        needs(x, 2, 11);
        needs(x, 3, 2, 1);
        x.start();
        causes(x, BROKEN, DISABLED, MISSING, BROKEN);
        looks(x, BLAMED, 1, -1, 0, 0);
    }

    private static void oneAfterTheOther() {
        CHECKS.promise("one after the other, and PLUGIN 0 again only when all have had their turn");
        PluginYard x = yard(6);
        needs(x, 0, 3);
        needs(x, 3, 11);
        needs(x, 4, 0, 3);
        needs(x, 5, 0, 4);
        x.start();
        causes(x, BROKEN, 0, 0, MISSING, BROKEN, BROKEN);
        looks(x, BLAMED, 0, -1, -1, 0, 1, 1);
    }

    private static void asLongAsAnyChanges() {
        CHECKS.promise("as long as any changes, again and again");
        PluginYard x = yard(12);
        for (int p = 0; p < 11; p++) {
            needs(x, p, p + 1);
        }
        x.enable(11, false);
        CHECKS.answers(0, "start, each needs the next", x::start);
        causes(x, BROKEN, BROKEN, BROKEN, BROKEN, BROKEN, BROKEN, BROKEN, BROKEN, BROKEN, BROKEN, BROKEN, DISABLED);
        PluginYard y = yard(12);
        for (int p = 1; p < 12; p++) {
            needs(y, p, p - 1);
        }
        y.enable(0, false);
        CHECKS.answers(0, "start, each needs the one before", y::start);
        causes(y, DISABLED, BROKEN, BROKEN, BROKEN, BROKEN, BROKEN, BROKEN, BROKEN, BROKEN, BROKEN, BROKEN, BROKEN);
    }

    private static void optionalNeedThatCounts() {
        CHECKS.promise("an optional NEED COUNTS if its PLUGIN is RESOLVED with a VERSION that is not below");
        PluginYard x = yard(6);
        x.archive(4, v("1.5"), v("1"));
        has(x, 4, 7, 70);
        has(x, 5, 7, 50);
        x.need(0, 4, v("1.5.0"), true);
        x.need(1, 4, v("1.5.0.1"), true);
        x.need(2, 5, v("1"), true);
        x.need(3, 4, v("1.4"), true);
        x.enable(5, false);
        CHECKS.answers(5, "start", x::start);
        looks(x, PLACE, 3, 0, 1, 4, 2, -1);
        sees(x, 0, 7, 70);
        seesNone(x, 1, 7);
        seesNone(x, 2, 7);
        sees(x, 3, 7, 70);
        // As soon as 5 is RESOLVED its NEED COUNTS, and what is ACTIVE there is seen.
        x.enable(5, true);
        CHECKS.answers(0, "load(5)", () -> x.load(5));
        sees(x, 2, 7, 50);
    }

    private static void otherNeedsAlwaysCount() {
        CHECKS.promise("NEEDS that are not optional always COUNT");
        PluginYard x = yard(4);
        has(x, 0, 7, 70);
        needs(x, 1, 0);
        mayNeed(x, 2, 0);
        x.enable(3, false);
        x.start();
        x.enable(0, false);
        x.load(3);
        causes(x, DISABLED, BROKEN, 0, DISABLED);
        sees(x, 1, 7, 70);
        seesNone(x, 2, 7);
        CHECKS.answers(2, "stop(0)", () -> x.stop(0));
    }

    private static void orderOfNone() {
        CHECKS.promise("the ORDER, where none is RESOLVED");
        PluginYard x = yard(2);
        x.enable(0, false);
        needs(x, 1, 0);
        CHECKS.answers(0, "start", x::start);
        looks(x, PLACE, -1, -1, -1);
    }

    private static void leastFirst() {
        CHECKS.promise("the ORDER: again and again the least PLUGIN");
        PluginYard x = yard(12);
        needs(x, 0, 5);
        mayNeed(x, 1, 0);
        needs(x, 9, 11);
        x.enable(7, false);
        CHECKS.answers(11, "start", x::start);
        looks(x, PLACE, 4, 5, 0, 1, 2, 3, 6, -1, 7, 10, 8, 9);
        looks(x, ACTIVE_PLACE, 4, 5, 0, 1, 2, 3, 6, -1, 7, 10, 8, 9);
    }

    private static void needsFirst() {
        CHECKS.promise("the ORDER: whose NEEDS that COUNT are all in it");
        PluginYard x = yard(12);
        for (int p = 0; p < 11; p++) {
            if (p % 2 == 0) {
                needs(x, p, p + 1);
            } else {
                mayNeed(x, p, p + 1);
            }
        }
        CHECKS.answers(12, "start", x::start);
        looks(x, PLACE, 11, 10, 9, 8, 7, 6, 5, 4, 3, 2, 1, 0);
        PluginYard y = yard(5);
        needs(y, 0, 1, 2, 3, 4);
        y.start();
        looks(y, PLACE, 4, 0, 1, 2, 3);
    }

    private static void startOfNone() {
        CHECKS.promise("START, where there are none");
        PluginYard x = new PluginYard();
        CHECKS.answers(0, "start", x::start);
        counts(x, 1, 0);
        counts(x, 4, 0);
    }

    private static void startFails() {
        CHECKS.promise("START: one whose start FAILS is FAILED, else it is ACTIVE");
        PluginYard x = yard(2);
        fails(x, 1);
        CHECKS.answers(1, "start", x::start);
        looks(x, STAND, PluginYard.ACTIVE, PluginYard.FAILED);
        looks(x, PLACE, 0, 1);
        looks(x, ACTIVE_PLACE, 0, -1);
        causes(x, 0, 0);
    }

    private static void startWithoutWhatItNeeds() {
        CHECKS.promise("START: one that has a NEED that is not optional of one that is not ACTIVE is FAILED");
        PluginYard x = yard(5);
        fails(x, 0);
        needs(x, 1, 4, 0);
        needs(x, 2, 1);
        needs(x, 3, 4);
        CHECKS.answers(2, "start", x::start);
        looks(x, STAND, PluginYard.FAILED, PluginYard.FAILED, PluginYard.FAILED, PluginYard.ACTIVE, PluginYard.ACTIVE);
        counts(x, 4, 5);
        CHECKS.answers(7, "load(1), where 0 is FAILED", () -> x.load(1));
        x.ways(0, 0, false, false);
        CHECKS.answers(0, "load(0)", () -> x.load(0));
        CHECKS.answers(7, "load(2), where 1 is FAILED", () -> x.load(2));
        CHECKS.answers(0, "load(1), where all are ACTIVE", () -> x.load(1));
        CHECKS.answers(0, "load(2), where all are ACTIVE", () -> x.load(2));
    }

    private static void optionalDoesNotMatter() {
        CHECKS.promise("START: an optional NEED does not matter");
        PluginYard x = yard(4);
        fails(x, 0);
        mayNeed(x, 1, 0);
        mayNeed(x, 2, 11);
        x.enable(3, false);
        CHECKS.answers(2, "start", x::start);
        looks(x, STAND, PluginYard.FAILED, PluginYard.ACTIVE, PluginYard.ACTIVE, PluginYard.THERE);
    }
}
