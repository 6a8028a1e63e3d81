/** "Terms", CLASSES, MASKED names, what a PLUGIN SEES, THE UBER LOADER and EXTENSIONS, sentence by sentence at its edges. */
public final class SightEdgesTest extends YardChecks {
    public static void main(String[] args) {
        namesZeroToFifteen();
        classesOfAnyInt();
        sumOfMaskedNames();
        onlyActiveOnesSee();
        firstSeesItsOwnFirst();
        hostsNames();
        hostsNamesMasked();
        needsInTheirOrder();
        needsThatCount();
        needsThatAreActive();
        ownClassOfANeedFirst();
        throughNeedsOfNeeds();
        maskedByTheOneThatLooks();
        itsOwnLast();
        thoseBetweenAreNotFirst();
        noneFound();
        aWayThatLeadsBack();
        uberWhereNothingIs();
        uberSeesHostsNames();
        uberInOrderOfBecomingActive();
        uberSeesOnlyActiveOnes();
        uberKeepsWhatWasFound();
        uberKeepsWhatWasNot();
        uberForgetsMissesOnly();
        uberForgetsAllAfterAStop();
        uberForgetsNothingElse();
        extensionsOfNone();
        upToFourExtensions();
        extensionsOfThePoint();
        extensionsThatAreSeen();
        extensionsByWeight();
        extensionsOfEqualWeight();
        CHECKS.end();
    }

    private static void namesZeroToFifteen() {
        CHECKS.promise("CLASSES: names 0..15");
        PluginYard x = yard(1);
        x.ways(0, 0, true, false);
        for (int name = 0; name <= 15; name++) {
            int own = name;
            CHECKS.answers(0, "cls(0, " + name + ")", () -> x.cls(0, own, 100 + own, own < 15 ? own + 1 : -1));
        }
        x.start();
        for (int name = 0; name <= 15; name++) {
            sees(x, 0, name, 100 + name);
        }
        CHECKS.answers(16 * 100 + 120, "link(0, 0)", () -> x.link(0, 0));
        CHECKS.answers(115, "link(0, 15)", () -> x.link(0, 15));
    }

    private static void classesOfAnyInt() {
        CHECKS.promise("CLASSES: each with an int, and the name of a class that it refers to, or -1");
        PluginYard x = yard(1);
        x.cls(0, 2, Integer.MIN_VALUE, -1);
        x.cls(0, 3, Integer.MAX_VALUE, -1);
        x.cls(0, 4, 0, 0);
        x.cls(0, 5, -1, 15);
        x.cls(0, 15, 7, -1);
        x.start();
        sees(x, 0, 2, Integer.MIN_VALUE);
        sees(x, 0, 3, Integer.MAX_VALUE);
        CHECKS.answers(Integer.MIN_VALUE, "link(0, 2), which refers to -1", () -> x.link(0, 2));
        CHECKS.answers(1000, "link(0, 4), which refers to 0", () -> x.link(0, 4));
        CHECKS.answers(6, "link(0, 5), which refers to 15", () -> x.link(0, 5));
    }

    private static void sumOfMaskedNames() {
        CHECKS.promise("a sum of MASKED names (2^name)");
        PluginYard x = yard(2);
        needs(x, 1, 0);
        for (int name = 2; name < 16; name++) {
            has(x, 0, name, 100 + name);
        }
        x.start();
        for (int masked = 0; masked < 16; masked++) {
            x.ways(1, 1 << masked, false, false);
            seesNone(x, 1, masked);
            int before = (masked + 15) % 16;
            int after = (masked + 1) % 16;
            sees(x, 1, before, before < 2 ? 1000 + before : 100 + before);
            sees(x, 1, after, after < 2 ? 1000 + after : 100 + after);
        }
        x.ways(1, 65535, false, false);
        for (int name = 0; name < 16; name++) {
            seesNone(x, 1, name);
        }
        x.ways(1, 32767, false, false);
        seesNone(x, 1, 14);
        sees(x, 1, 15, 115);
    }

    private static void onlyActiveOnesSee() {
        CHECKS.promise("a PLUGIN that is ACTIVE SEES");
        PluginYard x = yard(4);
        seesNone(x, 1, 0);
        fails(x, 0);
        x.enable(2, false);
        x.start();
        seesNone(x, 0, 0);
        sees(x, 1, 0, 1000);
        seesNone(x, 2, 0);
        sees(x, 3, 0, 1000);
        seesNone(x, 4, 0);
        x.stop(3);
        seesNone(x, 3, 0);
    }

    private static void firstSeesItsOwnFirst() {
        CHECKS.promise("SEES: if it is FIRST its own");
        PluginYard x = yard(2);
        needs(x, 1, 0);
        for (int name : new int[] {0, 5, 6}) {
            has(x, 0, name, 10 + name);
            has(x, 1, name, 20 + name);
        }
        has(x, 0, 7, 17);
        x.start();
        sees(x, 1, 0, 1000);
        sees(x, 1, 5, 15);
        x.ways(1, 1 << 6, true, false);
        sees(x, 1, 0, 20);
        sees(x, 1, 5, 25);
        sees(x, 1, 6, 26);
        sees(x, 1, 7, 17);
        sees(x, 1, 1, 1001);
    }

    private static void hostsNames() {
        CHECKS.promise("SEES: the host's names 0 and 1, whose int is 1000 and the name");
        PluginYard x = yard(2);
        needs(x, 1, 0);
        for (int name = 0; name <= 2; name++) {
            has(x, 0, name, 10 + name);
            has(x, 1, name, 20 + name);
        }
        x.start();
        sees(x, 1, 0, 1000);
        sees(x, 1, 1, 1001);
        sees(x, 1, 2, 12);
        sees(x, 0, 2, 12);
    }

    private static void hostsNamesMasked() {
        CHECKS.promise("SEES: the host's names, if they are not MASKED");
        PluginYard x = running(1);
        x.ways(0, 1, false, false);
        seesNone(x, 0, 0);
        sees(x, 0, 1, 1001);
        x.ways(0, 2, false, false);
        sees(x, 0, 0, 1000);
        seesNone(x, 0, 1);
        has(x, 0, 1, 5);
        sees(x, 0, 1, 5);
        x.ways(0, 3, false, false);
        seesNone(x, 0, 0);
        sees(x, 0, 1, 5);
        x.ways(0, 65532, false, false);
        sees(x, 0, 0, 1000);
        sees(x, 0, 1, 1001);
    }

    private static void needsInTheirOrder() {
        CHECKS.promise("SEES: through its NEEDS, in their order");
        PluginYard x = yard(5);
        needs(x, 4, 2, 0);
        mayNeed(x, 4, 3, 1);
        int[][] names = {{5}, {5, 6, 7, 8}, {5, 6}, {5, 6, 7}, {5, 6, 7, 8, 9}};
        for (int p = 0; p < names.length; p++) {
            for (int name : names[p]) {
                has(x, p, name, 10 * p + name);
            }
        }
        has(x, 0, 6, 6);
        x.start();
        sees(x, 4, 5, 25);
        sees(x, 4, 6, 26);
        sees(x, 4, 7, 37);
        sees(x, 4, 8, 18);
        sees(x, 4, 9, 49);
    }

    private static void needsThatCount() {
        CHECKS.promise("SEES: through its NEEDS that COUNT");
        PluginYard x = yard(3);
        has(x, 0, 5, 50);
        x.need(1, 0, v("1.0"), true);
        x.need(2, 0, v("1.0.1"), true);
        CHECKS.answers(3, "start", x::start);
        sees(x, 1, 5, 50);
        seesNone(x, 2, 5);
    }

    private static void needsThatAreActive() {
        CHECKS.promise("SEES: through its NEEDS, of those that are ACTIVE");
        PluginYard x = yard(4);
        fails(x, 0);
        mayNeed(x, 3, 0, 1, 2);
        for (int p = 0; p < 3; p++) {
            has(x, p, 5, 50 + p);
        }
        x.start();
        sees(x, 3, 5, 51);
        x.stop(1);
        sees(x, 3, 5, 52);
        x.stop(2);
        seesNone(x, 3, 5);
        x.ways(0, 0, false, false);
        CHECKS.answers(0, "load(0)", () -> x.load(0));
        sees(x, 3, 5, 50);
    }

    private static void ownClassOfANeedFirst() {
        CHECKS.promise("SEES: a NEED's own class, or what it SEES through its NEEDS");
        PluginYard x = yard(4);
        needs(x, 1, 0);
        needs(x, 3, 1, 2);
        has(x, 0, 5, 50);
        has(x, 1, 5, 51);
        has(x, 0, 6, 60);
        has(x, 2, 6, 62);
        x.start();
        sees(x, 3, 5, 51);
        sees(x, 1, 5, 50);
        sees(x, 3, 6, 60);
    }

    private static void throughNeedsOfNeeds() {
        CHECKS.promise("SEES: what they SEE through their NEEDS so");
        PluginYard x = yard(12);
        for (int p = 1; p < 12; p++) {
            if (p % 3 == 0) {
                mayNeed(x, p, p - 1);
            } else {
                needs(x, p, p - 1);
            }
        }
        has(x, 0, 15, 150);
        CHECKS.answers(12, "start", x::start);
        for (int p = 0; p < 12; p++) {
            sees(x, p, 15, 150);
        }
        CHECKS.answers(150, "link(11, 15)", () -> x.link(11, 15));
        has(x, 11, 14, 140);
        seesNone(x, 10, 14);
        CHECKS.answers(3, "stop(0)", () -> x.stop(0));
        seesNone(x, 3, 15);
        seesNone(x, 11, 15);
    }

    private static void maskedByTheOneThatLooks() {
        CHECKS.promise("SEES: through NEEDS, if the name is not MASKED by the one that looks");
        PluginYard x = yard(3);
        needs(x, 1, 0);
        needs(x, 2, 1);
        has(x, 0, 5, 50);
        has(x, 1, 6, 60);
        x.start();
        x.ways(2, 1 << 5, false, false);
        seesNone(x, 2, 5);
        sees(x, 2, 6, 60);
        x.ways(2, 1 << 6, false, false);
        sees(x, 2, 5, 50);
        seesNone(x, 2, 6);
        x.ways(2, 0, false, false);
        x.ways(1, 1 << 5 | 1 << 6, false, false);
        x.ways(0, 1 << 5, false, false);
        seesNone(x, 1, 5);
        sees(x, 2, 5, 50);
        sees(x, 2, 6, 60);
        x.ways(2, 1 | 1 << 5, true, false);
        seesNone(x, 2, 0);
        seesNone(x, 2, 5);
    }

    private static void itsOwnLast() {
        CHECKS.promise("SEES: its own, the first that is found is it");
        PluginYard x = yard(2);
        mayNeed(x, 1, 0);
        has(x, 0, 5, 50);
        has(x, 1, 5, 51);
        has(x, 1, 6, 61);
        x.start();
        sees(x, 1, 5, 50);
        sees(x, 1, 6, 61);
        x.ways(1, 1 << 5, false, false);
        sees(x, 1, 5, 51);
        x.ways(1, 0, false, false);
        x.stop(0);
        sees(x, 1, 5, 51);
    }

    private static void thoseBetweenAreNotFirst() {
        CHECKS.promise("SEES: own ones and the host's of those between are not looked at but as said");
        PluginYard x = yard(3);
        needs(x, 1, 0);
        needs(x, 2, 1);
        has(x, 0, 0, 10);
        has(x, 0, 5, 50);
        x.ways(1, 0, true, false);
        x.ways(2, 1, false, false);
        x.start();
        seesNone(x, 2, 0);
        sees(x, 1, 0, 1000);
        sees(x, 2, 5, 50);
        has(x, 1, 5, 51);
        sees(x, 2, 5, 51);
        sees(x, 1, 5, 51);
    }

    private static void noneFound() {
        CHECKS.promise("SEES: none");
        PluginYard x = yard(3);
        needs(x, 1, 0);
        has(x, 1, 5, 51);
        has(x, 2, 6, 62);
        x.start();
        seesNone(x, 0, 5);
        seesNone(x, 1, 6);
        seesNone(x, 1, 15);
        has(x, 0, 15, 1);
        sees(x, 1, 15, 1);
    }

    private static void aWayThatLeadsBack() {
        CHECKS.promise("SEES: where a way of NEEDS leads back");
        PluginYard x = yard(2);
        mayNeed(x, 0, 2);
        needs(x, 1, 0);
        has(x, 0, 5, 50);
        x.start();
        x.archive(2, v("1"), v("1"));
        needs(x, 2, 1);
        has(x, 2, 6, 62);
        CHECKS.answers(3, "load(2)", () -> x.load(2));
        causes(x, 3, 3, 3);
        looks(x, STAND, PluginYard.ACTIVE, PluginYard.ACTIVE, PluginYard.THERE);
        sees(x, 1, 5, 50);
        seesNone(x, 1, 6);
        seesNone(x, 0, 6);
        CHECKS.answers(2, "stop(0)", () -> x.stop(0));
    }

    private static void keeps(PluginYard x, int searches, int hits) {
        counts(x, 2, searches);
        counts(x, 3, hits);
    }

    private static void uberWhereNothingIs() {
        CHECKS.promise("THE UBER LOADER where nothing is there");
        PluginYard x = new PluginYard();
        finds(x, 0, -1);
        finds(x, 1, -1);
        findsNone(x, 2);
        findsNone(x, 15);
        keeps(x, 4, 0);
    }

    private static void uberSeesHostsNames() {
        CHECKS.promise("THE UBER LOADER sees the host's names, else own classes");
        PluginYard x = yard(1);
        for (int name = 0; name <= 2; name++) {
            has(x, 0, name, 1);
        }
        x.ways(0, 65535, true, false);
        x.start();
        finds(x, 0, -1);
        finds(x, 1, -1);
        finds(x, 2, 0);
    }

    private static void uberInOrderOfBecomingActive() {
        CHECKS.promise("THE UBER LOADER: in the order in which they became ACTIVE");
        PluginYard x = yard(3);
        needs(x, 0, 2);
        for (int p = 0; p < 3; p++) {
            has(x, p, 5, 1);
        }
        has(x, 0, 6, 1);
        has(x, 2, 6, 1);
        x.start();
        finds(x, 5, 1);
        finds(x, 6, 2);
        x.stop(1);
        finds(x, 5, 2);
        x.load(1);
        finds(x, 5, 2);
        x.stop(2);
        finds(x, 5, 1);
    }

    private static void uberSeesOnlyActiveOnes() {
        CHECKS.promise("THE UBER LOADER: own classes of all that are ACTIVE");
        PluginYard x = yard(12);
        has(x, 11, 5, 1);
        has(x, 0, 6, 1);
        has(x, 1, 7, 1);
        findsNone(x, 5);
        fails(x, 0);
        x.enable(1, false);
        x.start();
        finds(x, 5, 11);
        findsNone(x, 6);
        findsNone(x, 7);
        x.stop(11);
        findsNone(x, 5);
    }

    private static void uberKeepsWhatWasFound() {
        CHECKS.promise("what THE UBER LOADER found is kept, and not looked for again");
        PluginYard x = yard(2);
        has(x, 1, 5, 1);
        x.start();
        finds(x, 5, 1);
        has(x, 0, 5, 1);
        finds(x, 5, 1);
        finds(x, 0, -1);
        finds(x, 0, -1);
        keeps(x, 2, 2);
    }

    private static void uberKeepsWhatWasNot() {
        CHECKS.promise("what THE UBER LOADER did not find is kept, and not looked for again");
        PluginYard x = running(1);
        findsNone(x, 5);
        has(x, 0, 5, 1);
        findsNone(x, 5);
        findsNone(x, 5);
        keeps(x, 1, 2);
        finds(x, 0, -1);
        findsNone(x, 15);
        keeps(x, 3, 2);
    }

    private static void uberForgetsMissesOnly() {
        CHECKS.promise("THE UBER LOADER: when a PLUGIN becomes ACTIVE, what was not found is forgotten");
        PluginYard x = yard(2);
        x.enable(1, false);
        x.start();
        has(x, 0, 5, 1);
        has(x, 1, 6, 1);
        finds(x, 5, 0);
        finds(x, 1, -1);
        findsNone(x, 6);
        findsNone(x, 7);
        x.enable(1, true);
        CHECKS.answers(0, "load(1)", () -> x.load(1));
        keeps(x, 4, 0);
        finds(x, 5, 0);
        finds(x, 1, -1);
        keeps(x, 4, 2);
        finds(x, 6, 1);
        findsNone(x, 7);
        keeps(x, 6, 2);
        finds(x, 6, 1);
        findsNone(x, 7);
        keeps(x, 6, 4);
    }

    private static void uberForgetsAllAfterAStop() {
        CHECKS.promise("THE UBER LOADER: when one is stopped, all is forgotten");
        PluginYard x = yard(2);
        has(x, 1, 5, 1);
        x.start();
        finds(x, 5, 1);
        finds(x, 0, -1);
        findsNone(x, 6);
        has(x, 1, 6, 1);
        x.stop(0);
        finds(x, 5, 1);
        finds(x, 0, -1);
        finds(x, 6, 1);
        keeps(x, 6, 0);
        x.shutdown();
        findsNone(x, 5);
        finds(x, 0, -1);
        keeps(x, 8, 0);
    }

    private static void uberForgetsNothingElse() {
        CHECKS.promise("THE UBER LOADER keeps until a PLUGIN becomes ACTIVE or one is stopped");
        PluginYard x = yard(3);
        fails(x, 1);
        x.enable(2, false);
        x.start();
        findsNone(x, 5);
        finds(x, 0, -1);
        has(x, 0, 5, 1);
        x.load(1);
        x.load(2);
        x.enable(0, false);
        x.ways(0, 1, true, false);
        x.archive(1, v("1"), v("1"));
        Checks.outcome(() -> x.stop(1));
        findsNone(x, 5);
        finds(x, 0, -1);
        keeps(x, 2, 2);
        PluginYard y = new PluginYard();
        findsNone(y, 5);
        y.start();
        y.shutdown();
        findsNone(y, 5);
        keeps(y, 1, 1);
    }

    private static void extensionsOfNone() {
        CHECKS.promise("EXTENSIONS where nothing is there");
        PluginYard x = new PluginYard();
        for (int point = 0; point < 4; point++) {
            extendedBy(x, point);
        }
        PluginYard y = yard(1);
        y.extension(0, 0, 1, 0);
        extendedBy(y, 0);
        y.start();
        extendedBy(y, 0, 0);
        y.stop(0);
        extendedBy(y, 0);
    }

    private static void upToFourExtensions() {
        CHECKS.promise("up to 4 EXTENSIONS: the fourth is one like the others");
        PluginYard x = yard(1);
        for (int k = 0; k < 3; k++) {
            x.extension(0, 0, 1, 15);
        }
        x.extension(0, 3, 7, 1);
        CHECKS.refuses(BOUNDS, "the fifth", () -> x.extension(0, 0, 1, 1));
        x.start();
        extendedBy(x, 0);
        extendedBy(x, 3, 0);
        CHECKS.answers(7.0, "weight(3)", () -> x.weight(3));
        has(x, 0, 15, 1);
        extendedBy(x, 0, 0, 0, 0);
    }

    private static void extensionsOfThePoint() {
        CHECKS.promise("EXTENSIONS of a point 0..3");
        PluginYard x = yard(4);
        for (int p = 0; p < 4; p++) {
            x.extension(p, 3 - p, 1 + p, 0);
        }
        x.start();
        for (int point = 0; point < 4; point++) {
            int at = point;
            extendedBy(x, point, 3 - point);
            CHECKS.answers(4.0 - point, "weight(" + point + ")", () -> x.weight(at));
        }
    }

    private static void extensionsThatAreSeen() {
        CHECKS.promise("EXTENSIONS whose class their PLUGIN SEES");
        PluginYard x = yard(3);
        needs(x, 1, 0);
        has(x, 0, 5, 1);
        has(x, 2, 6, 1);
        for (int p = 0; p < 3; p++) {
            x.extension(p, 0, -p, 5);
            x.extension(p, 1, -p, 6);
            x.extension(p, 2, -p, 1);
        }
        x.start();
        extendedBy(x, 0, 0, 1);
        extendedBy(x, 1, 2);
        extendedBy(x, 2, 0, 1, 2);
        x.ways(1, 1 << 5 | 1 << 1, false, false);
        extendedBy(x, 0, 0);
        extendedBy(x, 2, 0, 2);
    }

    private static void extensionsByWeight() {
        CHECKS.promise("EXTENSIONS by weight, the greatest first");
        double[] rising = {
            Double.NEGATIVE_INFINITY, -Double.MAX_VALUE, -1, -Double.MIN_VALUE, 0, Double.MIN_VALUE, 1, Math.nextUp(1.0), 1e16, 1e16 + 2,
            Double.MAX_VALUE, Double.POSITIVE_INFINITY,
        };
        PluginYard x = yard(12);
        int[] greatestFirst = new int[12];
        for (int p = 0; p < 12; p++) {
            int rank = p * 5 % 12;
            x.extension(p, 0, rising[rank], 0);
            greatestFirst[11 - rank] = p;
        }
        x.start();
        extendedBy(x, 0, greatestFirst);
    }

    private static void extensionsOfEqualWeight() {
        CHECKS.promise("EXTENSIONS of equal weight by the order in which their PLUGINS became ACTIVE, then as they stand");
        PluginYard x = yard(3);
        needs(x, 0, 2);
        x.extension(0, 0, 0.0, 0);
        x.extension(1, 0, -0.0, 0);
        x.extension(2, 0, 0.0, 0);
        x.start();
        extendedBy(x, 0, 1, 2, 0);
        x.stop(1);
        x.load(1);
        extendedBy(x, 0, 2, 0, 1);
        // Those of one PLUGIN that weigh the same stand side by side; no answer tells them apart.
        PluginYard y = yard(2);
        y.extension(0, 1, 5, 0);
        y.extension(0, 1, 5, 1);
        y.extension(1, 1, 5, 1);
        y.extension(1, 1, 6, 1);
        y.start();
        extendedBy(y, 1, 1, 0, 0, 1);
    }
}
