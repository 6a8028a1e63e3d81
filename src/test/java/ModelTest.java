import java.util.HashMap;
import java.util.Map;
import java.util.Random;

/** Random runs of 512 calls, answer by answer against the model; the seeds are fixed. */
public final class ModelTest {
    private static final int RUNS = 1500;
    private static final int CALLS = 512;
    private static final String[] VERSIONS = {
        "1", "1", "1", "1", "1.0", "1.1", "2", "0.9", "1-rc", "1-rc1", "1-beta", "1alpha", "1zz", "a", "10", "rc", "1.0.0.0", "01",
        "", "1.", ".1", "1..2", "A", "1 ", "1\0junk",
    };
    private static final double[] WEIGHTS = {0, 1, 1, 2, -1, 0.1, 0.25, 1e16, -1e16, 1e308, -0.0};
    private static final String LETTERS = "01289abclphetrz.-";

    private final Random random;
    private final int plugins;
    private final boolean tidy;
    private final PluginYard yard = new PluginYard();
    private final YardModel model = new YardModel();
    private final StringBuilder told = new StringBuilder();
    private Object got;
    private Object want;

    private ModelTest(long seed) {
        random = new Random(seed);
        plugins = 2 + random.nextInt(11);
        tidy = random.nextInt(3) > 0;
    }

    public static void main(String[] args) {
        Map<String, Integer> seen = new HashMap<>();
        for (int seed = 0; seed < RUNS; seed++) {
            ModelTest run = new ModelTest(seed);
            for (int call = 0; call < CALLS; call++) {
                run.call();
                if (!run.got.equals(run.want)) {
                    System.out.println("seed " + seed + ":" + run.told);
                    System.out.println("answered " + run.got + ", due is " + run.want);
                    System.exit(1);
                }
                String line = run.told.substring(run.told.lastIndexOf("\n") + 1);
                String kind = run.want instanceof String ? run.want.toString() : "an answer";
                seen.merge(line.substring(0, line.indexOf('(')) + ": " + kind, 1, Integer::sum);
            }
        }
        Checks checks = new Checks();
        checks.promise("the runs reach all that the face names");
        for (String outcome : OUTCOMES) {
            checks.due(outcome, seen.getOrDefault(outcome, 0) > 20, true);
        }
        checks.end();
    }

    private static final String[] OUTCOMES = {
        "host: an answer", "host: IllegalArgumentException", "host: IllegalStateException",
        "archive: an answer", "archive: IllegalArgumentException", "archive: IllegalStateException",
        "need: an answer", "need: NoSuchElementException", "need: IllegalArgumentException", "need: IllegalStateException",
        "need: IndexOutOfBoundsException", "cls: an answer", "cls: NoSuchElementException", "cls: IllegalArgumentException",
        "ways: an answer", "ways: NoSuchElementException", "ways: IllegalArgumentException",
        "extension: an answer", "extension: NoSuchElementException", "extension: IllegalArgumentException",
        "extension: IndexOutOfBoundsException", "enable: an answer", "enable: NoSuchElementException",
        "start: an answer", "start: IllegalStateException", "load: an answer", "load: NoSuchElementException",
        "load: IllegalStateException", "stop: an answer", "stop: NoSuchElementException", "shutdown: an answer",
        "shutdown: IllegalStateException", "see: an answer", "see: NoSuchElementException", "see: IllegalArgumentException",
        "link: an answer", "link: NoSuchElementException", "link: IllegalArgumentException", "link: IllegalStateException",
        "uber: an answer", "uber: NoSuchElementException", "uber: IllegalArgumentException",
        "extended: an answer", "extended: IndexOutOfBoundsException", "extended: IllegalArgumentException",
        "weight: an answer", "weight: IllegalArgumentException", "look: an answer", "look: IllegalArgumentException",
        "compare: an answer", "compare: IllegalArgumentException", "count: an answer", "count: IllegalArgumentException",
    };

    private int upTo(int bound) {
        return random.nextInt(bound);
    }

    /** One of 0..bound-1, now and then one beside them. */
    private int near(int bound) {
        return upTo(40) == 0 ? (upTo(2) == 0 ? -1 - upTo(3) : bound + upTo(3)) : upTo(bound);
    }

    private int plugin() {
        return upTo(40) == 0 ? near(12) : upTo(plugins);
    }

    /** In tidy runs one needs mostly those below it, so that there are fewer cycles. */
    private int needed(int p) {
        return tidy && p > 0 && upTo(30) > 0 ? upTo(p) : near(12);
    }

    private long version() {
        if (upTo(tidy ? 60 : 10) > 0) {
            return Checks.v(VERSIONS[upTo(tidy ? 5 : VERSIONS.length)]);
        }
        StringBuilder text = new StringBuilder();
        for (int length = upTo(9); length > 0; length--) {
            text.append(LETTERS.charAt(upTo(LETTERS.length())));
        }
        return Checks.v(text.toString());
    }

    private int masked() {
        int some = 1 << upTo(16) | (upTo(4) == 0 ? 3 : 0);
        return upTo(20) == 0 ? near(65536) : upTo(2) == 0 ? 0 : some;
    }

    private void tell(String call) {
        told.append("\n").append(call);
    }

    private void call() {
        int kind = upTo(100);
        if (kind < 34) {
            build(kind);
        } else if (kind < 48) {
            run(kind - 34);
        } else {
            ask(kind - 48);
        }
    }

    private void build(int kind) {
        int p = plugin();
        if (kind < 6) {
            long version = version();
            long needed = upTo(5) == 0 ? version() : Checks.v("1");
            tell("archive(" + p + ", " + YardModel.text(version) + ", " + YardModel.text(needed) + ")");
            got = Checks.outcome(() -> yard.archive(p, version, needed));
            want = model.archive(p, version, needed);
        } else if (kind < 14) {
            int q = needed(p);
            long version = version();
            boolean optional = upTo(3) == 0;
            tell("need(" + p + ", " + q + ", " + YardModel.text(version) + ", " + optional + ")");
            got = Checks.outcome(() -> yard.need(p, q, version, optional));
            want = model.need(p, q, version, optional);
        } else if (kind < 24) {
            int name = near(16);
            int value = random.nextInt();
            int refers = near(17) - 1;
            tell("cls(" + p + ", " + name + ", " + value + ", " + refers + ")");
            got = Checks.outcome(() -> yard.cls(p, name, value, refers));
            want = model.cls(p, name, value, refers);
        } else if (kind < 28) {
            int masked = masked();
            boolean first = upTo(3) == 0;
            boolean fails = upTo(6) == 0;
            tell("ways(" + p + ", " + masked + ", " + first + ", " + fails + ")");
            got = Checks.outcome(() -> yard.ways(p, masked, first, fails));
            want = model.ways(p, masked, first, fails);
        } else {
            int point = near(4);
            double weight = WEIGHTS[upTo(WEIGHTS.length)];
            int name = near(16);
            tell("extension(" + p + ", " + point + ", " + weight + ", " + name + ")");
            got = Checks.outcome(() -> yard.extension(p, point, weight, name));
            want = model.extension(p, point, weight, name);
        }
    }

    private void run(int kind) {
        int p = plugin();
        if (kind < 2) {
            boolean on = upTo(3) > 0;
            tell("enable(" + p + ", " + on + ")");
            got = Checks.outcome(() -> yard.enable(p, on));
            want = model.enable(p, on);
        } else if (kind < 4) {
            tell("start()");
            got = Checks.outcome(yard::start);
            want = model.start();
        } else if (kind < 10) {
            tell("load(" + p + ")");
            got = Checks.outcome(() -> yard.load(p));
            want = model.load(p);
        } else if (kind < 12) {
            tell("stop(" + p + ")");
            got = Checks.outcome(() -> yard.stop(p));
            want = model.stop(p);
        } else if (kind < 13 && upTo(3) == 0) {
            tell("shutdown()");
            got = Checks.outcome(yard::shutdown);
            want = model.shutdown();
        } else {
            long version = version();
            tell("host(" + YardModel.text(version) + ")");
            got = Checks.outcome(() -> yard.host(version));
            want = model.host(version);
        }
    }

    private void ask(int kind) {
        int p = plugin();
        int name = near(16);
        int point = near(4);
        if (kind < 10) {
            tell("see(" + p + ", " + name + ")");
            got = Checks.outcome(() -> yard.see(p, name));
            want = model.see(p, name);
        } else if (kind < 16) {
            tell("link(" + p + ", " + name + ")");
            got = Checks.outcome(() -> yard.link(p, name));
            want = model.link(p, name);
        } else if (kind < 22) {
            tell("uber(" + name + ")");
            got = Checks.outcome(() -> yard.uber(name));
            want = model.uber(name);
        } else if (kind < 26) {
            int k = near(6);
            tell("extended(" + point + ", " + k + ")");
            got = Checks.outcome(() -> yard.extended(point, k));
            want = model.extended(point, k);
        } else if (kind < 29) {
            tell("weight(" + point + ")");
            got = Checks.outcome(() -> yard.weight(point));
            want = model.weight(point);
        } else if (kind < 43) {
            int what = near(5);
            int q = near(12);
            tell("look(" + q + ", " + what + ")");
            got = Checks.outcome(() -> yard.look(q, what));
            want = model.look(q, what);
        } else if (kind < 46) {
            long one = version();
            long other = version();
            tell("compare(" + YardModel.text(one) + ", " + YardModel.text(other) + ")");
            got = Checks.outcome(() -> yard.compare(one, other));
            want = model.compare(one, other);
        } else {
            int what = near(6);
            tell("count(" + what + ")");
            got = Checks.outcome(() -> yard.count(what));
            want = model.count(what);
        }
    }
}
