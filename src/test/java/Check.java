import java.lang.reflect.InvocationTargetException;
import java.lang.reflect.Method;
import java.util.Arrays;
import java.util.Comparator;

/** Runs the tests of a class, counts the answers that are not as due, and says which they are. */
final class Check {
    interface World {
        WheelWorks make();
    }

    interface Act {
        void on(WheelWorks x);
    }

    interface ActBy {
        void on(WheelWorks x, int number);
    }

    static final Class<? extends RuntimeException> INDEX = IndexOutOfBoundsException.class;
    static final Class<? extends RuntimeException> ARGUMENT = IllegalArgumentException.class;
    static final Class<? extends RuntimeException> STATE = IllegalStateException.class;

    private String test = "";
    private int checked;
    private int wrong;

    /** Runs each method that says which sentence it tests. */
    void runAll(Class<?> tests) {
        Method[] methods = tests.getDeclaredMethods();
        Arrays.sort(methods, Comparator.comparing(Method::getName));
        int ran = 0;
        for (Method method : methods) {
            Says says = method.getAnnotation(Says.class);
            if (says != null) {
                String where = says.promise() == Says.TERMS ? "terms" : "promise " + says.promise();
                test = method.getName() + " (" + where + ": " + says.value() + "): ";
                run(method);
                ran++;
            }
        }
        test = "";
        System.out.println(ran + " sentences tested");
        end();
    }

    private void run(Method method) {
        try {
            method.setAccessible(true);
            method.invoke(null);
        } catch (InvocationTargetException e) {
            fail("broke off with " + e.getCause());
        } catch (IllegalAccessException e) {
            fail("cannot be run: " + e);
        }
    }

    void due(String what, long got, long want) {
        checked++;
        if (got != want) {
            fail(what + " answered " + got + ", due is " + want);
        }
    }

    void due(String what, boolean got, boolean want) {
        due(what, got ? 1 : 0, want ? 1 : 0);
    }

    void due(String what, String got, String want) {
        checked++;
        if (!got.equals(want)) {
            fail(what + " answered " + got + ", due is " + want);
        }
    }

    /** The class is compared as it is: much of what the machine throws is of a class below the one that is due. */
    void throwing(String what, Class<? extends RuntimeException> want, Runnable act) {
        checked++;
        try {
            act.run();
        } catch (RuntimeException e) {
            if (e.getClass() != want || !isOwn(e)) {
                fail(what + " threw " + e + " in " + e.getStackTrace()[0] + ", due is " + want.getName());
            }
            return;
        }
        fail(what + " threw nothing, due is " + want.getName());
    }

    /** Whether the program threw that itself, and not the machine or a list in it. */
    static boolean isOwn(RuntimeException e) {
        StackTraceElement[] trace = e.getStackTrace();
        return trace.length > 0 && trace[0].getClassName().startsWith("WheelWorks");
    }

    /** The call throws that, and all that can be learnt behind it is as without it. */
    void refused(String what, Class<? extends RuntimeException> want, World world, Act call) {
        throwing(what, want, () -> call.on(world.make()));
        int parts = Told.partsOf(world.make());
        for (int part = Told.ALL_BUT_PARTS; part < parts; part++) {
            WheelWorks tried = world.make();
            try {
                call.on(tried);
            } catch (RuntimeException e) {
                due(what + " changes nothing", Told.of(tried, part), Told.of(world.make(), part));
            }
        }
    }

    /** As above, on a works that has been changed by a call or more before. */
    void refused(String what, Class<? extends RuntimeException> want, World world, Act before, Act call) {
        refused(what, want, () -> behind(world, before), call);
    }

    static WheelWorks behind(World world, Act before) {
        WheelWorks x = world.make();
        before.on(x);
        return x;
    }

    /** The least and the greatest number are taken, those beyond are illegal arguments. */
    void range(String what, int least, int most, World world, ActBy call) {
        for (int number : new int[] {least, most}) {
            checked++;
            try {
                call.on(world.make(), number);
            } catch (RuntimeException e) {
                fail(what + " " + number + " threw " + e);
            }
        }
        for (int number : new int[] {least - 1, most + 1, Integer.MIN_VALUE, Integer.MAX_VALUE}) {
            refused(what + " " + number, ARGUMENT, world, x -> call.on(x, number));
        }
    }

    /** A call that takes a part is refused for the numbers before the first part and behind the last one. */
    void noSuchPart(World world, ActBy call) {
        int parts = Told.partsOf(world.make());
        for (int part : new int[] {-1, -2, parts, parts + 1, 60, Integer.MIN_VALUE, Integer.MAX_VALUE}) {
            refused("part " + part + " of " + parts, INDEX, world, x -> call.on(x, part));
        }
    }

    /** A call that takes parts of some kinds is refused for those of the others. */
    void otherKinds(String kinds, ActBy call) {
        for (int kind = WheelWorks.TRAIN; kind <= WheelWorks.MOTOR; kind++) {
            int part = kind;
            if (kinds.indexOf((char) ('0' + kind)) < 0) {
                refused("a part of kind " + kind, ARGUMENT, Build::oneOfEach, x -> call.on(x, part));
            } else {
                call.on(Build.oneOfEach(), part);
            }
        }
    }

    void fail(String what) {
        wrong++;
        if (wrong <= 40) {
            System.out.println(test + what);
        }
    }

    boolean hasFailed() {
        return wrong > 0;
    }

    void end() {
        System.out.println(checked + " answers looked at, " + wrong + " not as due");
        if (wrong > 0) {
            System.exit(1);
        }
    }
}
