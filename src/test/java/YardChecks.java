import java.util.NoSuchElementException;
import java.util.concurrent.Callable;

/** What the tests of PluginYard share: yards to begin with, and checks of several answers at once. */
abstract class YardChecks {
    static final Class<IllegalArgumentException> ARGUMENT = IllegalArgumentException.class;
    static final Class<IllegalStateException> STATE = IllegalStateException.class;
    static final Class<NoSuchElementException> NO_SUCH = NoSuchElementException.class;
    static final Class<IndexOutOfBoundsException> BOUNDS = IndexOutOfBoundsException.class;

    static final int STAND = 0, CAUSE = 1, PLACE = 2, BLAMED = 3, ACTIVE_PLACE = 4;

    static final Checks CHECKS = new Checks();

    static long v(String text) {
        return Checks.v(text);
    }

    /** PLUGINS 0 to plugins - 1 are there, each of VERSION 1, from VERSION 1 of the host on. */
    static PluginYard yard(int plugins) {
        PluginYard x = new PluginYard();
        for (int p = 0; p < plugins; p++) {
            x.archive(p, v("1"), v("1"));
        }
        return x;
    }

    static PluginYard running(int plugins) {
        PluginYard x = yard(plugins);
        x.start();
        return x;
    }

    static void needs(PluginYard x, int p, int... others) {
        for (int q : others) {
            x.need(p, q, v("1"), false);
        }
    }

    static void mayNeed(PluginYard x, int p, int... others) {
        for (int q : others) {
            x.need(p, q, v("1"), true);
        }
    }

    /** An own class of PLUGIN p that refers to none. */
    static void has(PluginYard x, int p, int name, int value) {
        x.cls(p, name, value, -1);
    }

    static void fails(PluginYard x, int p) {
        x.ways(p, 0, false, true);
    }

    /** PLUGIN 0 first, as many as are given. */
    static void looks(PluginYard x, int what, int... want) {
        for (int p = 0; p < want.length; p++) {
            int q = p;
            CHECKS.answers(want[p], "look(" + p + ", " + what + ")", () -> x.look(q, what));
        }
    }

    static void causes(PluginYard x, int... want) {
        looks(x, CAUSE, want);
    }

    static void counts(PluginYard x, int what, int want) {
        CHECKS.answers(want, "count(" + what + ")", () -> x.count(what));
    }

    static void sees(PluginYard x, int p, int name, int want) {
        CHECKS.answers(want, "see(" + p + ", " + name + ")", () -> x.see(p, name));
    }

    static void seesNone(PluginYard x, int p, int name) {
        CHECKS.refuses(NO_SUCH, "see(" + p + ", " + name + ")", () -> x.see(p, name));
    }

    static void finds(PluginYard x, int name, int want) {
        CHECKS.answers(want, "uber(" + name + ")", () -> x.uber(name));
    }

    static void findsNone(PluginYard x, int name) {
        CHECKS.refuses(NO_SUCH, "uber(" + name + ")", () -> x.uber(name));
    }

    /** The PLUGINS of all EXTENSIONS of a point, the first one first, and that there are no more. */
    static void extendedBy(PluginYard x, int point, int... want) {
        for (int k = 0; k < want.length; k++) {
            int at = k;
            CHECKS.answers(want[k], "extended(" + point + ", " + k + ")", () -> x.extended(point, at));
        }
        CHECKS.refuses(BOUNDS, "extended(" + point + ", " + want.length + ")", () -> x.extended(point, want.length));
    }

    /** The ints on the other sides of two bounds: those next to them, and those farthest off. */
    static int[] outside(int least, int most) {
        return new int[] {least - 1, most + 1, Integer.MIN_VALUE, Integer.MAX_VALUE};
    }

    /** The call is refused, and nothing that can be asked without changing it has changed. */
    static void refusesAndKeeps(PluginYard x, Class<? extends Exception> want, String call, Callable<?> run) {
        String before = told(x);
        CHECKS.refuses(want, call, run);
        CHECKS.due("what stands after the refused " + call, told(x), before);
    }

    // Of what is seen only a part is told: an object is used for 512 calls.
    private static String told(PluginYard x) {
        StringBuilder text = new StringBuilder();
        for (int p = 0; p < 12; p++) {
            for (int what = 0; what <= 4; what++) {
                text.append(x.look(p, what)).append(' ');
            }
        }
        for (int what = 0; what <= 5; what++) {
            text.append(x.count(what)).append(' ');
        }
        for (int k = 0; k < 4; k++) {
            int point = k;
            text.append(x.weight(point)).append(' ').append(Checks.outcome(() -> x.extended(point, 0))).append(' ');
        }
        for (int k = 0; k < 16; k++) {
            int name = k;
            text.append(Checks.outcome(() -> x.link(0, name))).append(' ').append(Checks.outcome(() -> x.link(1, name))).append(' ');
        }
        return text.toString();
    }
}
