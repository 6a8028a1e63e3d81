/** The promises of the document one by one: ordinary inputs, edges, and every exception. */
public final class PromisesTest extends YardChecks {
    public static void main(String[] args) {
        newObject();
        host();
        archive();
        need();
        cls();
        ways();
        extension();
        enable();
        resolvingCauses();
        resolvingByWhatIsSoAtThatMoment();
        resolvingCycles();
        resolvingVersions();
        order();
        start();
        load();
        stop();
        shutdown();
        see();
        seeThroughNeeds();
        seeMasked();
        link();
        linkLength();
        uber();
        uberKeeps();
        extended();
        weight();
        weightWithoutNaN();
        look();
        compare();
        compareRefuses();
        count();
        CHECKS.end();
    }

    private static void newObject() {
        CHECKS.promise("1, a new object");
        PluginYard x = new PluginYard();
        CHECKS.answers(0, "host(1)", () -> x.host(v("1")));
        CHECKS.refuses(STATE, "shutdown", x::shutdown);
        for (int what = 0; what <= 5; what++) {
            int w = what;
            CHECKS.answers(0, "count(" + w + ")", () -> x.count(w));
        }
        int[] looks = {0, 0, -1, -1, -1};
        for (int p = 0; p < 12; p++) {
            for (int what = 0; what <= 4; what++) {
                int q = p;
                int w = what;
                CHECKS.answers(looks[w], "look(" + q + ", " + w + ")", () -> x.look(q, w));
            }
        }
        CHECKS.answers(0, "start", x::start);
        CHECKS.answers(-1, "uber(1)", () -> x.uber(1));
    }

    private static void host() {
        CHECKS.promise("2, host");
        PluginYard x = new PluginYard();
        CHECKS.answers(1, "host(1.1)", () -> x.host(v("1.1")));
        CHECKS.answers(-1, "host(1-rc)", () -> x.host(v("1-rc")));
        CHECKS.answers(0, "host(1rc)", () -> x.host(v("1rc")));
        CHECKS.refuses(ARGUMENT, "host(0)", () -> x.host(0));
        CHECKS.refuses(ARGUMENT, "host(1.)", () -> x.host(v("1.")));
        CHECKS.answers(0, "host(1-rc) after a refused one", () -> x.host(v("1-rc")));
        x.start();
        CHECKS.refuses(STATE, "host(2) while it runs", () -> x.host(v("2")));
        CHECKS.refuses(ARGUMENT, "host(no version) while it runs", () -> x.host(v("A")));
        x.shutdown();
        CHECKS.answers(1, "host(2) after shutdown", () -> x.host(v("2")));
    }

    private static void archive() {
        CHECKS.promise("3, archive");
        PluginYard x = new PluginYard();
        CHECKS.answers(PluginYard.NONE, "the first", () -> x.archive(11, v("1"), v("1")));
        CHECKS.answers(PluginYard.THERE, "the second", () -> x.archive(11, v("2"), v("1")));
        CHECKS.refuses(ARGUMENT, "p -1", () -> x.archive(-1, v("1"), v("1")));
        CHECKS.refuses(ARGUMENT, "p 12", () -> x.archive(12, v("1"), v("1")));
        CHECKS.refuses(ARGUMENT, "no version", () -> x.archive(0, v("1-"), v("1")));
        CHECKS.refuses(ARGUMENT, "no version of the host", () -> x.archive(0, v("1"), v("")));
        CHECKS.answers(PluginYard.NONE, "refused ones leave none", () -> x.look(0, 0));
        x.start();
        CHECKS.refuses(STATE, "of one that is active", () -> x.archive(11, v("1"), v("1")));
        CHECKS.refuses(ARGUMENT, "no version, of one that is active", () -> x.archive(11, v("."), v("1")));
        x.stop(11);
        CHECKS.answers(PluginYard.STOPPED, "after a stop", () -> x.archive(11, v("1"), v("1")));
        x.ways(11, 0, false, true);
        x.load(11);
        CHECKS.answers(PluginYard.FAILED, "after a failure", () -> x.archive(11, v("1"), v("1")));
        archiveReplacesAll();
    }

    private static void archiveReplacesAll() {
        PluginYard x = yard(3);
        needs(x, 0, 1, 2);
        x.cls(0, 3, 30, 3);
        x.ways(0, 12, true, true);
        x.extension(0, 0, 1, 3);
        x.enable(0, false);
        x.archive(0, v("1"), v("1"));
        CHECKS.answers(1, "needs are gone", () -> x.need(0, 1, v("1"), false));
        CHECKS.answers(0, "classes are gone", () -> x.cls(0, 3, 1, -1));
        CHECKS.answers(0, "masked names are gone", () -> x.ways(0, 0, false, false));
        CHECKS.answers(1, "extensions are gone", () -> x.extension(0, 0, 1, 3));
        CHECKS.answers(false, "it stays disabled", () -> x.enable(0, true));
        x.ways(0, 0, true, true);
        x.archive(0, v("1"), v("1"));
        CHECKS.answers(3, "its start fails no more", x::start);
    }

    private static void need() {
        CHECKS.promise("4, need");
        PluginYard x = yard(2);
        CHECKS.refuses(NO_SUCH, "no archive", () -> x.need(2, 0, v("1"), false));
        CHECKS.refuses(NO_SUCH, "p -1", () -> x.need(-1, 0, v("1"), false));
        CHECKS.refuses(NO_SUCH, "p 12 and no q", () -> x.need(12, 99, v("1"), false));
        CHECKS.refuses(ARGUMENT, "q -1", () -> x.need(0, -1, v("1"), false));
        CHECKS.refuses(ARGUMENT, "q 12", () -> x.need(0, 12, v("1"), false));
        CHECKS.refuses(ARGUMENT, "itself", () -> x.need(0, 0, v("1"), false));
        CHECKS.refuses(ARGUMENT, "no version", () -> x.need(0, 1, v("1--2"), false));
        CHECKS.answers(1, "the first", () -> x.need(0, 11, v("1"), true));
        CHECKS.refuses(ARGUMENT, "the same again", () -> x.need(0, 11, v("1"), false));
        CHECKS.answers(2, "the second", () -> x.need(0, 10, v("1"), true));
        CHECKS.answers(3, "the third", () -> x.need(0, 9, v("1"), true));
        CHECKS.answers(4, "the fourth", () -> x.need(0, 8, v("1"), true));
        CHECKS.refuses(BOUNDS, "the fifth", () -> x.need(0, 7, v("1"), true));
        CHECKS.refuses(ARGUMENT, "the same as a fifth", () -> x.need(0, 8, v("1"), true));
        x.start();
        CHECKS.refuses(STATE, "of one that is active", () -> x.need(1, 0, v("1"), true));
        CHECKS.refuses(STATE, "the fifth of one that is active", () -> x.need(0, 7, v("1"), true));
        CHECKS.refuses(ARGUMENT, "itself, while it is active", () -> x.need(1, 1, v("1"), true));
        x.stop(1);
        CHECKS.answers(1, "of one that was stopped", () -> x.need(1, 0, v("1"), true));
    }

    private static void cls() {
        CHECKS.promise("5, cls");
        PluginYard x = yard(1);
        CHECKS.refuses(NO_SUCH, "no archive", () -> x.cls(1, 3, 1, -1));
        CHECKS.refuses(NO_SUCH, "p 12 and no name", () -> x.cls(12, 16, 1, -1));
        CHECKS.refuses(ARGUMENT, "name -1", () -> x.cls(0, -1, 1, -1));
        CHECKS.refuses(ARGUMENT, "name 16", () -> x.cls(0, 16, 1, -1));
        CHECKS.refuses(ARGUMENT, "refers -2", () -> x.cls(0, 3, 1, -2));
        CHECKS.refuses(ARGUMENT, "refers 16", () -> x.cls(0, 3, 1, 16));
        CHECKS.answers(0, "the first", () -> x.cls(0, 15, 1, 15));
        CHECKS.answers(1, "instead of it", () -> x.cls(0, 15, 2, -1));
        x.start();
        CHECKS.answers(2, "see", () -> x.see(0, 15));
        CHECKS.answers(1, "while it is active", () -> x.cls(0, 15, -7, 2));
        CHECKS.answers(-7, "see the new one", () -> x.see(0, 15));
        CHECKS.refuses(NO_SUCH, "link the new one", () -> x.link(0, 15));
    }

    private static void ways() {
        CHECKS.promise("6, ways");
        PluginYard x = yard(1);
        CHECKS.refuses(NO_SUCH, "no archive", () -> x.ways(1, 0, false, false));
        CHECKS.refuses(NO_SUCH, "p -1 and no sum", () -> x.ways(-1, -1, false, false));
        CHECKS.refuses(ARGUMENT, "-1", () -> x.ways(0, -1, true, true));
        CHECKS.refuses(ARGUMENT, "65536", () -> x.ways(0, 65536, true, true));
        CHECKS.answers(0, "at first", () -> x.ways(0, 65535, false, false));
        CHECKS.answers(65535, "after that", () -> x.ways(0, 0, false, true));
        CHECKS.answers(0, "start", x::start);
        CHECKS.answers(PluginYard.FAILED, "its start fails", () -> x.look(0, 0));
        CHECKS.answers(0, "of one that failed", () -> x.ways(0, 1, false, false));
        CHECKS.answers(0, "load", () -> x.load(0));
        CHECKS.answers(1, "of one that is active", () -> x.ways(0, 0, false, true));
        CHECKS.answers(PluginYard.ACTIVE, "it stays active", () -> x.look(0, 0));
    }

    private static void extension() {
        CHECKS.promise("7, extension");
        PluginYard x = yard(1);
        CHECKS.refuses(NO_SUCH, "no archive", () -> x.extension(1, 0, 1, 0));
        CHECKS.refuses(NO_SUCH, "p 12 and no point", () -> x.extension(12, 4, 1, 0));
        CHECKS.refuses(ARGUMENT, "point -1", () -> x.extension(0, -1, 1, 0));
        CHECKS.refuses(ARGUMENT, "point 4", () -> x.extension(0, 4, 1, 0));
        CHECKS.refuses(ARGUMENT, "name -1", () -> x.extension(0, 0, 1, -1));
        CHECKS.refuses(ARGUMENT, "name 16", () -> x.extension(0, 0, 1, 16));
        for (int k = 0; k < 4; k++) {
            int point = k;
            CHECKS.answers(k + 1, "a further one", () -> x.extension(0, point, 1, 0));
        }
        CHECKS.refuses(BOUNDS, "the fifth", () -> x.extension(0, 0, 1, 0));
        CHECKS.refuses(ARGUMENT, "the fifth without a point", () -> x.extension(0, 4, 1, 0));
        x.archive(1, v("1"), v("1"));
        x.start();
        CHECKS.answers(1, "of one that is active", () -> x.extension(1, 0, 2, 1));
        CHECKS.answers(1, "it is there at once", () -> x.extended(0, 0));
    }

    private static void enable() {
        CHECKS.promise("8, enable");
        PluginYard x = yard(1);
        CHECKS.refuses(NO_SUCH, "no archive", () -> x.enable(1, false));
        CHECKS.refuses(NO_SUCH, "p -1", () -> x.enable(-1, false));
        CHECKS.refuses(NO_SUCH, "p 12", () -> x.enable(12, false));
        CHECKS.answers(true, "at first", () -> x.enable(0, false));
        CHECKS.answers(false, "after that", () -> x.enable(0, false));
        CHECKS.answers(0, "start", x::start);
        CHECKS.answers(false, "on again", () -> x.enable(0, true));
        CHECKS.answers(0, "load", () -> x.load(0));
        CHECKS.answers(true, "of one that is active", () -> x.enable(0, false));
        CHECKS.answers(PluginYard.ACTIVE, "it stays active", () -> x.look(0, 0));
    }

    private static void resolvingCauses() {
        CHECKS.promise("9, resolving: causes");
        PluginYard x = yard(9);
        x.enable(0, false);
        x.archive(0, v("1"), v("9"));
        x.archive(1, v("1"), v("1.0.1"));
        needs(x, 1, 2);
        needs(x, 2, 1);
        needs(x, 3, 11);
        x.need(4, 3, v("1.1"), false);
        needs(x, 5, 3);
        x.need(6, 11, v("1"), true);
        x.need(6, 3, v("1"), true);
        x.need(6, 7, v("2"), true);
        x.need(7, 3, v("1"), true);
        x.need(7, 6, v("1-alpha"), false);
        needs(x, 8, 0);
        CHECKS.answers(0, "start", x::start);
        causes(x, 1, 2, 3, 4, 5, 6, 3, 3, 6, 0, 0, 0);
        int[] blamed = {-1, -1, -1, 0, 0, 0, -1, -1, 0};
        for (int p = 0; p < blamed.length; p++) {
            int q = p;
            CHECKS.answers(blamed[p], "look(" + p + ", 3)", () -> x.look(q, 3));
            CHECKS.answers(-1, "look(" + p + ", 2)", () -> x.look(q, 2));
            CHECKS.answers(PluginYard.THERE, "look(" + p + ", 0)", () -> x.look(q, 0));
        }
    }

    private static void resolvingByWhatIsSoAtThatMoment() {
        CHECKS.promise("9, resolving: by what is so at that moment");
        // When 0 is looked at, 1 has no cause yet: its second need counts.
        PluginYard x = yard(2);
        needs(x, 0, 1, 11);
        needs(x, 1, 10);
        x.start();
        causes(x, 4, 4);
        CHECKS.answers(1, "look(0, 3)", () -> x.look(0, 3));
        // When 1 is looked at, 0 has its cause: the first need counts.
        PluginYard y = yard(2);
        needs(y, 0, 10);
        needs(y, 1, 0, 11);
        y.start();
        causes(y, 4, 6);
        CHECKS.answers(0, "look(1, 3)", () -> y.look(1, 3));
        // A chain against the order of the numbers takes a pass for each.
        PluginYard z = yard(12);
        for (int p = 0; p < 11; p++) {
            needs(z, p, p + 1);
        }
        z.enable(11, false);
        z.start();
        causes(z, 6, 6, 6, 6, 6, 6, 6, 6, 6, 6, 6, 1);
        // One that is both too old and broken is too old.
        PluginYard w = yard(2);
        needs(w, 0, 11);
        w.need(1, 0, v("2"), false);
        w.start();
        causes(w, 4, 5);
    }

    private static void resolvingCycles() {
        CHECKS.promise("9, resolving: cycles");
        PluginYard x = yard(6);
        needs(x, 0, 1);
        x.need(1, 2, v("9"), true);
        needs(x, 2, 0);
        needs(x, 3, 0);
        x.need(4, 0, v("1"), true);
        needs(x, 5, 4);
        x.enable(2, false);
        CHECKS.answers(2, "start", x::start);
        causes(x, 3, 3, 1, 6, 0, 0);
        // A way through one that is not there leads nowhere.
        PluginYard y = yard(2);
        y.need(0, 2, v("1"), true);
        needs(y, 1, 0);
        CHECKS.answers(2, "start", y::start);
        y.archive(2, v("1"), v("1"));
        needs(y, 2, 1);
        CHECKS.answers(3, "load(2)", () -> y.load(2));
        causes(y, 3, 3, 3);
        CHECKS.answers(2, "what is active stays so", () -> y.count(1));
    }

    private static void resolvingVersions() {
        CHECKS.promise("9, resolving: versions");
        PluginYard x = new PluginYard();
        x.host(v("2.5"));
        x.archive(0, v("1.2"), v("2.5.0"));
        x.archive(1, v("1"), v("2.6-rc"));
        x.archive(2, v("1"), v("2.5-rc"));
        x.need(2, 0, v("1.2.0"), false);
        x.archive(3, v("1"), v("1"));
        x.need(3, 0, v("1.3-beta"), false);
        x.archive(4, v("1"), v("1"));
        x.need(4, 0, v("1.2-beta"), false);
        CHECKS.answers(3, "start", x::start);
        causes(x, 0, 2, 0, 5, 0);
    }

    private static void order() {
        CHECKS.promise("9, the order");
        PluginYard x = yard(6);
        needs(x, 0, 4);
        x.need(1, 3, v("1"), true);
        x.need(2, 5, v("2"), true);
        needs(x, 4, 3);
        CHECKS.answers(6, "start", x::start);
        int[] places = {4, 2, 0, 1, 3, 5};
        for (int p = 0; p < places.length; p++) {
            int q = p;
            CHECKS.answers(places[p], "look(" + p + ", 2)", () -> x.look(q, 2));
            CHECKS.answers(places[p], "look(" + p + ", 4)", () -> x.look(q, 4));
        }
        CHECKS.answers(-1, "look(6, 2)", () -> x.look(6, 2));
        // An optional need of one that is not resolved does not count.
        PluginYard y = yard(2);
        y.need(0, 1, v("1"), true);
        y.enable(1, false);
        CHECKS.answers(1, "start", y::start);
        CHECKS.answers(0, "look(0, 2)", () -> y.look(0, 2));
    }

    private static void start() {
        CHECKS.promise("9, start");
        PluginYard x = yard(5);
        x.ways(0, 0, false, true);
        needs(x, 1, 0);
        x.need(2, 0, v("1"), true);
        needs(x, 3, 1);
        CHECKS.answers(2, "start", x::start);
        int[] stands = {PluginYard.FAILED, PluginYard.FAILED, PluginYard.ACTIVE, PluginYard.FAILED, PluginYard.ACTIVE, PluginYard.NONE};
        for (int p = 0; p < stands.length; p++) {
            int q = p;
            CHECKS.answers(stands[p], "look(" + p + ", 0)", () -> x.look(q, 0));
        }
        causes(x, 0, 0, 0, 0, 0);
        CHECKS.answers(5, "starts done", () -> x.count(4));
        CHECKS.refuses(STATE, "start again", x::start);
        x.shutdown();
        x.ways(0, 0, false, false);
        x.enable(4, false);
        CHECKS.answers(4, "start after shutdown", x::start);
        CHECKS.answers(PluginYard.STOPPED, "one that is not resolved stands as before", () -> x.look(4, 0));
        CHECKS.answers(9, "starts done", () -> x.count(4));
    }

    private static void load() {
        CHECKS.promise("10, load");
        PluginYard x = yard(2);
        CHECKS.refuses(STATE, "the host does not run", () -> x.load(0));
        CHECKS.refuses(NO_SUCH, "no archive, and the host does not run", () -> x.load(2));
        x.enable(1, false);
        x.start();
        CHECKS.refuses(NO_SUCH, "no archive", () -> x.load(2));
        CHECKS.refuses(NO_SUCH, "p -1", () -> x.load(-1));
        CHECKS.refuses(NO_SUCH, "p 12", () -> x.load(12));
        CHECKS.refuses(STATE, "it is active", () -> x.load(0));
        CHECKS.answers(1, "a disabled one", () -> x.load(1));
        CHECKS.answers(PluginYard.THERE, "it was not started", () -> x.look(1, 0));
        x.archive(2, v("1"), v("1"));
        needs(x, 2, 3);
        CHECKS.answers(4, "one whose need is missing", () -> x.load(2));
        x.archive(3, v("1"), v("1"));
        CHECKS.answers(7, "one whose need is not active", () -> x.load(2));
        CHECKS.answers(0, "its cause", () -> x.look(2, 1));
        CHECKS.answers(PluginYard.THERE, "only one is started", () -> x.look(3, 0));
        CHECKS.answers(0, "what it needs", () -> x.load(3));
        CHECKS.answers(0, "it after that", () -> x.load(2));
        CHECKS.answers(2, "look(2, 4)", () -> x.look(2, 4));
        CHECKS.answers(2, "look(2, 2)", () -> x.look(2, 2));
        x.archive(4, v("1"), v("1"));
        x.need(4, 1, v("1"), true);
        x.ways(4, 0, false, true);
        CHECKS.answers(7, "one whose start fails", () -> x.load(4));
        x.ways(4, 0, false, false);
        CHECKS.answers(0, "one whose optional need is not active", () -> x.load(4));
        loadResolvesAllAnew();
    }

    private static void loadResolvesAllAnew() {
        PluginYard x = yard(3);
        x.cls(0, 5, 50, -1);
        x.need(1, 0, v("1"), true);
        needs(x, 2, 0);
        x.start();
        CHECKS.answers(50, "see(1, 5)", () -> x.see(1, 5));
        x.enable(0, false);
        CHECKS.answers(50, "see(1, 5) before resolving", () -> x.see(1, 5));
        CHECKS.answers(0, "look(0, 1) before resolving", () -> x.look(0, 1));
        x.archive(3, v("1"), v("1"));
        CHECKS.answers(0, "load(3)", () -> x.load(3));
        causes(x, 1, 0, 6, 0);
        CHECKS.answers(4, "what is active stays so", () -> x.count(1));
        CHECKS.refuses(NO_SUCH, "see(1, 5): its optional need counts no more", () -> x.see(1, 5));
        CHECKS.answers(50, "see(2, 5): other needs always count", () -> x.see(2, 5));
        CHECKS.answers(2, "stop(0)", () -> x.stop(0));
    }

    private static void stop() {
        CHECKS.promise("11, stop");
        PluginYard x = yard(5);
        needs(x, 0, 1);
        needs(x, 2, 0);
        x.need(3, 1, v("1"), true);
        CHECKS.refuses(NO_SUCH, "before the start", () -> x.stop(0));
        x.start();
        CHECKS.refuses(NO_SUCH, "p -1", () -> x.stop(-1));
        CHECKS.refuses(NO_SUCH, "p 12", () -> x.stop(12));
        CHECKS.refuses(NO_SUCH, "no archive", () -> x.stop(5));
        CHECKS.answers(4, "look(4, 4)", () -> x.look(4, 4));
        CHECKS.answers(3, "stop(1)", () -> x.stop(1));
        int[] stands = {PluginYard.STOPPED, PluginYard.STOPPED, PluginYard.STOPPED, PluginYard.ACTIVE, PluginYard.ACTIVE};
        int[] places = {-1, -1, -1, 0, 1};
        for (int p = 0; p < stands.length; p++) {
            int q = p;
            CHECKS.answers(stands[p], "look(" + p + ", 0)", () -> x.look(q, 0));
            CHECKS.answers(places[p], "look(" + p + ", 4)", () -> x.look(q, 4));
        }
        causes(x, 0, 0, 0, 0, 0);
        CHECKS.refuses(NO_SUCH, "stop(1) again", () -> x.stop(1));
        CHECKS.answers(1, "stop(3)", () -> x.stop(3));
        CHECKS.answers(4, "stops", () -> x.count(5));
    }

    private static void shutdown() {
        CHECKS.promise("12, shutdown");
        PluginYard x = yard(3);
        x.ways(1, 0, false, true);
        CHECKS.refuses(STATE, "before the start", x::shutdown);
        x.start();
        CHECKS.answers(2, "shutdown", x::shutdown);
        CHECKS.answers(PluginYard.STOPPED, "look(0, 0)", () -> x.look(0, 0));
        CHECKS.answers(PluginYard.FAILED, "look(1, 0)", () -> x.look(1, 0));
        CHECKS.answers(-1, "look(2, 4)", () -> x.look(2, 4));
        CHECKS.answers(0, "active ones", () -> x.count(1));
        CHECKS.answers(2, "stops", () -> x.count(5));
        CHECKS.refuses(STATE, "shutdown again", x::shutdown);
        CHECKS.answers(2, "start again", x::start);
        x.stop(0);
        x.stop(2);
        CHECKS.answers(0, "shutdown of none", x::shutdown);
        CHECKS.refuses(STATE, "load", () -> x.load(0));
    }

    private static void see() {
        CHECKS.promise("13, see");
        PluginYard x = yard(2);
        x.cls(0, 0, 7, -1);
        x.cls(0, 2, Integer.MIN_VALUE, -1);
        CHECKS.refuses(NO_SUCH, "before the start", () -> x.see(0, 0));
        CHECKS.refuses(NO_SUCH, "not active, and no name", () -> x.see(0, 16));
        x.start();
        CHECKS.answers(1000, "the host's 0", () -> x.see(0, 0));
        CHECKS.answers(1001, "the host's 1", () -> x.see(1, 1));
        CHECKS.answers(Integer.MIN_VALUE, "its own", () -> x.see(0, 2));
        CHECKS.refuses(NO_SUCH, "none", () -> x.see(0, 3));
        CHECKS.refuses(NO_SUCH, "another's", () -> x.see(1, 2));
        CHECKS.refuses(NO_SUCH, "p -1", () -> x.see(-1, 2));
        CHECKS.refuses(NO_SUCH, "p 12", () -> x.see(12, 2));
        CHECKS.refuses(ARGUMENT, "name -1", () -> x.see(0, -1));
        CHECKS.refuses(ARGUMENT, "name 16", () -> x.see(0, 16));
        x.ways(0, 0, true, false);
        CHECKS.answers(7, "its own first", () -> x.see(0, 0));
        CHECKS.answers(1001, "the host's where it has none", () -> x.see(0, 1));
    }

    private static void seeThroughNeeds() {
        CHECKS.promise("13, see through needs");
        PluginYard x = yard(6);
        // 5 needs 4 and 3; 4 needs 2; 3 needs 1; 2 needs 0 as an option.
        needs(x, 5, 4, 3);
        needs(x, 4, 2);
        needs(x, 3, 1);
        x.need(2, 0, v("1"), true);
        x.cls(0, 5, 50, -1);
        x.cls(3, 5, 53, -1);
        x.cls(5, 5, 55, -1);
        x.cls(1, 6, 61, -1);
        x.cls(2, 6, 62, -1);
        x.cls(4, 7, 74, -1);
        x.cls(2, 7, 72, -1);
        x.cls(4, 0, 4, -1);
        x.start();
        CHECKS.answers(50, "the first need is gone through to its end", () -> x.see(5, 5));
        CHECKS.answers(62, "its second step before the second need's", () -> x.see(5, 6));
        CHECKS.answers(74, "a need's own class before what it sees", () -> x.see(5, 7));
        CHECKS.answers(72, "what 4 sees: through its needs before its own", () -> x.see(4, 7));
        CHECKS.answers(1000, "the host before needs", () -> x.see(5, 0));
        CHECKS.answers(50, "see(2, 5)", () -> x.see(2, 5));
        CHECKS.answers(61, "see(3, 6)", () -> x.see(3, 6));
        x.ways(4, 0, true, false);
        CHECKS.answers(74, "4 is first", () -> x.see(4, 7));
        x.ways(5, 0, true, false);
        CHECKS.answers(55, "5 is first", () -> x.see(5, 5));
        x.ways(5, 0, false, false);
        CHECKS.answers(1, "stop(0)", () -> x.stop(0));
        CHECKS.answers(53, "only through active ones", () -> x.see(5, 5));
    }

    private static void seeMasked() {
        CHECKS.promise("13, see masked names");
        PluginYard x = yard(3);
        needs(x, 1, 0);
        needs(x, 2, 1);
        x.cls(0, 0, 10, -1);
        x.cls(0, 5, 50, -1);
        x.cls(1, 6, 61, -1);
        x.cls(2, 6, 62, -1);
        x.start();
        x.ways(2, 1 << 6 | 1 << 0, false, false);
        CHECKS.answers(62, "a masked name is not looked for in needs", () -> x.see(2, 6));
        CHECKS.refuses(NO_SUCH, "nor is the host's, nor what needs see", () -> x.see(2, 0));
        CHECKS.answers(1001, "names that are not masked are seen", () -> x.see(2, 1));
        x.ways(2, 0, false, false);
        x.ways(1, 1 << 5 | 1 << 6, false, false);
        CHECKS.answers(50, "only the one that looks masks", () -> x.see(2, 5));
        CHECKS.answers(61, "a need's own class, though it masks the name", () -> x.see(2, 6));
        CHECKS.refuses(NO_SUCH, "it does not see it itself", () -> x.see(1, 5));
        CHECKS.answers(61, "but its own", () -> x.see(1, 6));
        x.ways(0, 1, false, false);
        CHECKS.answers(10, "its own instead of the host's", () -> x.see(0, 0));
        x.ways(1, 1, false, false);
        CHECKS.refuses(NO_SUCH, "see(1, 0)", () -> x.see(1, 0));
        CHECKS.answers(1000, "see(2, 0)", () -> x.see(2, 0));
    }

    private static void link() {
        CHECKS.promise("14, link");
        PluginYard x = yard(3);
        needs(x, 1, 0);
        needs(x, 2, 1);
        x.cls(0, 3, 30, -1);
        x.cls(0, 4, 40, 5);
        x.cls(1, 5, 51, -1);
        x.cls(1, 6, 61, 1);
        x.cls(2, 7, Integer.MAX_VALUE, 3);
        x.cls(2, 3, 1000000, -1);
        x.cls(2, 8, 8, 8);
        x.cls(2, 9, 9, 10);
        CHECKS.refuses(NO_SUCH, "before the start", () -> x.link(0, 3));
        x.start();
        CHECKS.answers(30, "a way of one", () -> x.link(0, 3));
        CHECKS.answers(Integer.MIN_VALUE + 29, "it wraps", () -> x.link(2, 7));
        CHECKS.refuses(NO_SUCH, "as the one sees it whose own class it is", () -> x.link(1, 4));
        CHECKS.answers(1062, "to the host's class, which refers to none", () -> x.link(2, 6));
        CHECKS.answers(1000, "the host's", () -> x.link(2, 0));
        CHECKS.refuses(NO_SUCH, "not seen on the way", () -> x.link(2, 9));
        CHECKS.refuses(NO_SUCH, "not seen", () -> x.link(0, 5));
        CHECKS.refuses(NO_SUCH, "p 12", () -> x.link(12, 3));
        CHECKS.refuses(NO_SUCH, "p -1 and no name", () -> x.link(-1, -1));
        CHECKS.refuses(ARGUMENT, "name -1", () -> x.link(0, -1));
        CHECKS.refuses(ARGUMENT, "name 16", () -> x.link(0, 16));
        CHECKS.refuses(STATE, "a way without an end", () -> x.link(2, 8));
    }

    private static void linkLength() {
        CHECKS.promise("14, the length of a link");
        PluginYard x = yard(2);
        needs(x, 1, 0);
        x.ways(1, 0, true, false);
        for (int name = 2; name < 15; name++) {
            x.cls(0, name, 1, name + 1);
        }
        x.cls(0, 15, 1, -1);
        x.cls(1, 4, 100, 3);
        x.cls(1, 3, 100, 2);
        x.start();
        CHECKS.answers(214, "16 classes", () -> x.link(1, 4));
        x.cls(1, 5, 100, 4);
        CHECKS.refuses(STATE, "17 classes", () -> x.link(1, 5));
        x.cls(0, 15, 1, 1);
        CHECKS.refuses(STATE, "the 17th is the host's", () -> x.link(1, 4));
        x.ways(0, 2, false, false);
        CHECKS.refuses(STATE, "the 17th would not be seen", () -> x.link(1, 4));
    }

    private static void uber() {
        CHECKS.promise("15, uber");
        PluginYard x = yard(3);
        needs(x, 0, 2);
        x.cls(0, 3, 1, -1);
        x.cls(1, 3, 1, -1);
        x.cls(2, 3, 1, -1);
        x.cls(0, 1, 1, -1);
        x.cls(0, 4, 1, -1);
        x.ways(0, 65535, true, false);
        CHECKS.refuses(NO_SUCH, "before the start", () -> x.uber(3));
        x.start();
        CHECKS.answers(1, "the first that became active", () -> x.uber(3));
        CHECKS.answers(0, "masked names, too", () -> x.uber(4));
        CHECKS.answers(-1, "the host's 0", () -> x.uber(0));
        CHECKS.answers(-1, "the host's 1", () -> x.uber(1));
        CHECKS.refuses(NO_SUCH, "none", () -> x.uber(5));
        CHECKS.refuses(ARGUMENT, "name -1", () -> x.uber(-1));
        CHECKS.refuses(ARGUMENT, "name 16", () -> x.uber(16));
        x.stop(1);
        CHECKS.answers(2, "the next after a stop", () -> x.uber(3));
        x.load(1);
        CHECKS.answers(2, "the order in which they became active", () -> x.uber(3));
    }

    private static void uberKeeps() {
        CHECKS.promise("15, what the uber loader keeps");
        PluginYard x = yard(3);
        x.cls(1, 3, 1, -1);
        x.ways(2, 0, false, true);
        x.start();
        keeps(x, 0, 0);
        x.uber(3);
        x.uber(0);
        CHECKS.refuses(NO_SUCH, "uber(4)", () -> x.uber(4));
        keeps(x, 3, 0);
        x.cls(0, 3, 1, -1);
        x.cls(0, 4, 1, -1);
        CHECKS.answers(1, "what was found is kept", () -> x.uber(3));
        CHECKS.refuses(NO_SUCH, "what was not found is kept", () -> x.uber(4));
        keeps(x, 3, 2);
        x.load(2);
        CHECKS.refuses(NO_SUCH, "one that fails makes nothing be forgotten", () -> x.uber(4));
        keeps(x, 3, 3);
        x.ways(2, 0, false, false);
        x.load(2);
        CHECKS.answers(0, "what was not found is forgotten", () -> x.uber(4));
        CHECKS.answers(1, "what was found is not", () -> x.uber(3));
        keeps(x, 4, 4);
        x.stop(2);
        CHECKS.answers(0, "all is forgotten after a stop", () -> x.uber(3));
        CHECKS.answers(-1, "the host's, too", () -> x.uber(0));
        keeps(x, 6, 4);
        CHECKS.refuses(ARGUMENT, "no name", () -> x.uber(16));
        keeps(x, 6, 4);
        x.shutdown();
        CHECKS.refuses(NO_SUCH, "after a shutdown", () -> x.uber(3));
        x.start();
        CHECKS.answers(0, "after a start", () -> x.uber(3));
        keeps(x, 8, 4);
        keepsWhereNoneIsStopped();
    }

    private static void keepsWhereNoneIsStopped() {
        PluginYard x = new PluginYard();
        x.uber(0);
        x.start();
        x.shutdown();
        x.uber(0);
        keeps(x, 1, 1);
    }

    private static void keeps(PluginYard x, int searches, int hits) {
        CHECKS.answers(searches, "looked for", () -> x.count(2));
        CHECKS.answers(hits, "had", () -> x.count(3));
    }

    private static void extended() {
        CHECKS.promise("16, extended");
        PluginYard x = yard(3);
        needs(x, 0, 2);
        x.cls(2, 5, 1, -1);
        x.extension(0, 1, 2, 5);
        x.extension(0, 1, 7, 0);
        x.extension(1, 1, 2, 1);
        x.extension(1, 1, 9, 5);
        x.extension(1, 2, 9, 1);
        x.extension(2, 1, 2, 5);
        x.extension(2, 1, -1, 5);
        CHECKS.refuses(BOUNDS, "before the start", () -> x.extended(1, 0));
        x.start();
        int[] owners = {0, 1, 2, 0, 2};
        for (int k = 0; k < owners.length; k++) {
            int at = k;
            CHECKS.answers(owners[k], "extended(1, " + k + ")", () -> x.extended(1, at));
        }
        CHECKS.refuses(BOUNDS, "k 5", () -> x.extended(1, 5));
        CHECKS.refuses(BOUNDS, "k -1", () -> x.extended(1, -1));
        CHECKS.refuses(BOUNDS, "a point without any", () -> x.extended(0, 0));
        CHECKS.answers(1, "another point", () -> x.extended(2, 0));
        CHECKS.refuses(ARGUMENT, "point -1", () -> x.extended(-1, 0));
        CHECKS.refuses(ARGUMENT, "point 4", () -> x.extended(4, 0));
        x.ways(0, 1 << 5, false, false);
        CHECKS.refuses(BOUNDS, "one whose class is not seen any more", () -> x.extended(1, 4));
        x.cls(1, 5, 1, -1);
        CHECKS.answers(1, "one whose class has come", () -> x.extended(1, 0));
        extendedToItsFull();
    }

    private static void extendedToItsFull() {
        PluginYard x = yard(12);
        for (int p = 0; p < 12; p++) {
            for (int k = 0; k < 4; k++) {
                x.extension(p, 3, p, 1);
            }
        }
        x.start();
        for (int k = 0; k < 48; k++) {
            int at = k;
            CHECKS.answers(11 - k / 4, "extended(3, " + k + ")", () -> x.extended(3, at));
        }
        CHECKS.refuses(BOUNDS, "k 48", () -> x.extended(3, 48));
        CHECKS.answers(264.0, "weight(3)", () -> x.weight(3));
    }

    private static void weight() {
        CHECKS.promise("17, weight");
        PluginYard x = yard(2);
        x.extension(0, 0, 1, 0);
        x.extension(0, 0, 1e16, 0);
        x.extension(1, 0, 1, 0);
        x.extension(1, 0, -1e16, 0);
        x.extension(1, 1, 0.1, 0);
        x.extension(0, 1, 0.2, 0);
        x.extension(0, 1, 0.3, 9);
        CHECKS.answers(0.0, "before the start", () -> x.weight(0));
        x.start();
        CHECKS.answers(1e16 + 1 + 1 - 1e16, "the first one first", () -> x.weight(0));
        CHECKS.answers(0.2 + 0.1, "only what is seen", () -> x.weight(1));
        CHECKS.answers(0.0, "none", () -> x.weight(3));
        CHECKS.refuses(ARGUMENT, "point -1", () -> x.weight(-1));
        CHECKS.refuses(ARGUMENT, "point 4", () -> x.weight(4));
        x.stop(1);
        CHECKS.answers(0.2, "after a stop", () -> x.weight(1));
    }

    private static void weightWithoutNaN() {
        CHECKS.promise("17, weights that are no finite numbers");
        PluginYard x = yard(1);
        x.extension(0, 0, Double.NEGATIVE_INFINITY, 0);
        x.extension(0, 0, Double.POSITIVE_INFINITY, 0);
        x.extension(0, 1, Double.MAX_VALUE, 0);
        x.extension(0, 1, Double.MAX_VALUE, 0);
        x.archive(1, v("1"), v("1"));
        x.extension(1, 2, Double.MAX_VALUE, 0);
        x.extension(1, 2, Double.NEGATIVE_INFINITY, 0);
        x.extension(1, 3, Double.NaN, 0);
        x.extension(1, 3, 1, 0);
        x.start();
        CHECKS.answers(Double.POSITIVE_INFINITY, "infinities that have no sum", () -> x.weight(0));
        CHECKS.answers(Double.POSITIVE_INFINITY, "beyond the greatest", () -> x.weight(1));
        CHECKS.answers(Double.NEGATIVE_INFINITY, "the greatest and an infinity", () -> x.weight(2));
        CHECKS.answers(Double.NaN, "one that is NaN", () -> x.weight(3));
    }

    private static void look() {
        CHECKS.promise("18, look");
        PluginYard x = yard(3);
        needs(x, 0, 1);
        x.need(2, 0, v("1"), true);
        x.need(2, 11, v("1"), false);
        CHECKS.refuses(ARGUMENT, "p -1", () -> x.look(-1, 0));
        CHECKS.refuses(ARGUMENT, "p 12", () -> x.look(12, 0));
        CHECKS.refuses(ARGUMENT, "what -1", () -> x.look(0, -1));
        CHECKS.refuses(ARGUMENT, "what 5", () -> x.look(0, 5));
        x.start();
        int[][] want = {{2, 0, 1, -1, 1}, {2, 0, 0, -1, 0}, {1, 4, -1, 1, -1}, {0, 0, -1, -1, -1}};
        for (int p = 0; p < want.length; p++) {
            for (int what = 0; what <= 4; what++) {
                int q = p;
                int w = what;
                CHECKS.answers(want[p][what], "look(" + p + ", " + what + ")", () -> x.look(q, w));
            }
        }
        x.archive(2, v("1"), v("1"));
        CHECKS.answers(4, "its cause is the last one's until it is resolved anew", () -> x.look(2, 1));
        CHECKS.answers(1, "and so is its need", () -> x.look(2, 3));
        CHECKS.answers(0, "load(2)", () -> x.load(2));
        CHECKS.answers(0, "its cause now", () -> x.look(2, 1));
        CHECKS.answers(-1, "its need now", () -> x.look(2, 3));
        CHECKS.answers(2, "its place now", () -> x.look(2, 2));
        x.stop(1);
        CHECKS.answers(0, "place among the active ones", () -> x.look(2, 4));
        CHECKS.answers(2, "place in the order then", () -> x.look(2, 2));
    }

    private static void compare() {
        CHECKS.promise("19, compare");
        // Each is below the next; what stands with = is like the one before.
        String[] rising = {
            "alpha", "beta", "=beta0", "rc", "a", "aa", "al", "alph", "alphaa", "=alphaa.0", "alphab", "b", "betb", "r", "rcc", "z",
            "0-alpha", "0.rc-a", "0rc", "=0-rc", "=0.rc.0", "0rc1", "0z", "0", "=0.0.0.0", "=00000000", "0.0.1", "0.1",
            "1-1-rc", "1-1", "=01.01", "1.2a1", "=1.2a01", "1.2", "1.10", "9", "10", "10.0.1", "12345678", "99999999",
        };
        for (int i = 0; i < rising.length; i++) {
            for (int j = 0; j < rising.length; j++) {
                long one = v(rising[i].replace("=", ""));
                long other = v(rising[j].replace("=", ""));
                int want = Integer.compare(rank(rising, i), rank(rising, j));
                CHECKS.answers(want, "compare(" + rising[i] + ", " + rising[j] + ")", () -> new PluginYard().compare(one, other));
            }
        }
        CHECKS.answers(0, "nothing counts behind 8 bits that are 0", () -> new PluginYard().compare(v("1.2"), v("1.2\0A..9")));
    }

    private static int rank(String[] rising, int at) {
        int rank = 0;
        for (int i = 0; i <= at; i++) {
            if (!rising[i].startsWith("=")) {
                rank++;
            }
        }
        return rank;
    }

    private static void compareRefuses() {
        CHECKS.promise("19, compare: what is no version");
        String[] none = {
            "", ".", "-", ".1", "-1", "1.", "1-", "1..2", "1--2", "1.-2", "1-.2", "A", "1A", "1 2", "1_2", "1/2", "1:2", "1`", "1{",
            "1\u0080", "\u00ff", "1.2.3.4.", "\u0001", "1,2", "\0001",
        };
        PluginYard x = new PluginYard();
        for (String text : none) {
            CHECKS.refuses(ARGUMENT, "compare(" + text + ", 1)", () -> x.compare(v(text), v("1")));
            CHECKS.refuses(ARGUMENT, "compare(1, " + text + ")", () -> x.compare(v("1"), v(text)));
        }
        CHECKS.refuses(ARGUMENT, "compare(-1, 1)", () -> x.compare(-1L, v("1")));
    }

    private static void count() {
        CHECKS.promise("20, count");
        PluginYard x = yard(4);
        x.archive(0, v("2"), v("1"));
        x.enable(1, false);
        x.ways(2, 0, false, true);
        CHECKS.answers(4, "archives", () -> x.count(0));
        x.start();
        CHECKS.answers(2, "active ones", () -> x.count(1));
        CHECKS.answers(3, "starts", () -> x.count(4));
        x.load(1);
        CHECKS.answers(3, "starts: not of one that is not resolved", () -> x.count(4));
        x.load(2);
        CHECKS.answers(4, "starts: of one that failed", () -> x.count(4));
        x.stop(0);
        CHECKS.answers(1, "stops", () -> x.count(5));
        x.shutdown();
        CHECKS.answers(2, "stops of a shutdown, too", () -> x.count(5));
        CHECKS.answers(4, "archives stay", () -> x.count(0));
        CHECKS.answers(0, "searches", () -> x.count(2));
        CHECKS.answers(0, "hits", () -> x.count(3));
        CHECKS.refuses(ARGUMENT, "what -1", () -> x.count(-1));
        CHECKS.refuses(ARGUMENT, "what 6", () -> x.count(6));
    }
}
