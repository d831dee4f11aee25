import java.util.function.Consumer;

/** Compares answers with those that are due, and ends a test with exit code 1 if there was a wrong one. */
final class Check {
    private final String test;
    private int made = 0;
    private int wrong = 0;

    Check(String test) {
        this.test = test;
    }

    void due(String what, long got, long want) {
        made++;
        if (got != want) {
            tell(what, String.valueOf(got), String.valueOf(want));
        }
    }

    void due(String what, boolean got, boolean want) {
        due(what, got ? 1L : 0L, want ? 1L : 0L);
    }

    void dueDouble(String what, double got, double want) {
        made++;
        if (Double.compare(got, want) != 0) {
            tell(what, String.valueOf(got), String.valueOf(want));
        }
    }

    void dueText(String what, String got, String want) {
        made++;
        if (!got.equals(want)) {
            tell(what, got, want);
        }
    }

    void outside(String what, Runnable call) {
        dueThrow(what, IndexOutOfBoundsException.class, call);
    }

    void badArgument(String what, Runnable call) {
        dueThrow(what, IllegalArgumentException.class, call);
    }

    void badState(String what, Runnable call) {
        dueThrow(what, IllegalStateException.class, call);
    }

    private void dueThrow(String what, Class<?> want, Runnable call) {
        made++;
        try {
            call.run();
        } catch (RuntimeException e) {
            if (e.getClass() != want) {
                tell(what, e.getClass().getName(), want.getName());
            }
            return;
        }
        tell(what, "nothing thrown", want.getName());
    }

    /** One that is refused: of two yards that are the same it is called on one, which shows the same then and later. */
    void refused(String what, Class<?> want, Yards.Build build, Consumer<LinkfactoryYard> call) {
        LinkfactoryYard called = build.make();
        LinkfactoryYard twin = build.make();
        dueThrow(what, want, () -> call.accept(called));
        dueText(what + ", and nothing has changed", Yards.shown(called), Yards.shown(twin));
        dueText(what + ", nor what comes later", Yards.later(called), Yards.later(twin));
    }

    void outside(String what, Yards.Build build, Consumer<LinkfactoryYard> call) {
        refused(what, IndexOutOfBoundsException.class, build, call);
    }

    void badArgument(String what, Yards.Build build, Consumer<LinkfactoryYard> call) {
        refused(what, IllegalArgumentException.class, build, call);
    }

    void badState(String what, Yards.Build build, Consumer<LinkfactoryYard> call) {
        refused(what, IllegalStateException.class, build, call);
    }

    private void tell(String what, String got, String want) {
        wrong++;
        if (wrong <= 20) {
            System.out.println(test + ": " + what + " answered " + got + ", due is " + want);
        }
    }

    void end() {
        System.out.println(test + ": " + made + " answers looked at, " + wrong + " wrong");
        if (wrong != 0) {
            System.exit(1);
        }
    }
}
