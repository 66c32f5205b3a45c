/** Two objects with the same past: what is refused on one of them must leave no mark that any later call shows. */
final class Twins {
    interface Scene {
        RoamingNet make();
    }

    interface Call {
        long on(RoamingNet x);
    }

    private final Check c;

    Twins(Check c) {
        this.c = c;
    }

    /** The call is answered so, and after it the object goes on as one that was never asked. */
    void refused(String name, Scene scene, Call call, long want) {
        RoamingNet x = scene.make();
        RoamingNet y = scene.make();
        c.due(name, call.on(x), want);
        sameAnswers(name + ", after it ", x, y);
        sameFuture(name + ", later ", x, y);
        sameAnswers(name + ", in the end ", x, y);
    }

    void refused(String name, Scene scene, java.util.function.Predicate<RoamingNet> call) {
        refused(name, scene, x -> call.test(x) ? 1 : 0, 0);
    }

    void sameAnswers(String when, RoamingNet x, RoamingNet y) {
        int size = y.messages();
        c.due(when + "messages()", x.messages(), size);
        for (int i = 0; i < size; i++) {
            c.due(when + "message(" + i + ")", x.message(i), y.message(i));
        }
        for (int m = 0; m < 2; m++) {
            c.due(when + "place(" + m + ")", x.place(m), y.place(m));
            c.due(when + "registered(" + m + ")", x.registered(m), y.registered(m));
            c.due(when + "open(" + m + ")", x.open(m), y.open(m));
            c.due(when + "binding(" + m + ")", x.binding(m), y.binding(m));
            for (int a = 1; a < 4; a++) {
                c.due(when + "visit(" + a + ", " + m + ")", x.visit(a, m), y.visit(a, m));
            }
            for (int which = 0; which < 4; which++) {
                c.due(when + "count(" + which + ", " + m + ")", x.count(which, m), y.count(which, m));
            }
        }
    }

    private void both(String name, RoamingNet x, RoamingNet y, Call call) {
        c.due(name, call.on(x), call.on(y));
    }

    /** Brings out what no question shows at once: secrets, IDs, what was heard, entries and times. */
    private void sameFuture(String when, RoamingNet x, RoamingNet y) {
        for (int round = 0; round < 6; round++) {
            both(when + "tick(1)", x, y, z -> z.tick(1) ? 1 : 0);
            both(when + "deliver(0)", x, y, z -> z.deliver(0) ? 1 : 0);
            both(when + "messages()", x, y, z -> z.messages());
            both(when + "message(0)", x, y, z -> z.message(0));
            both(when + "open(0)", x, y, z -> z.open(0));
            both(when + "open(1)", x, y, z -> z.open(1));
        }
        for (int k = 0; k < 40; k++) {
            both(when + "drop(0)", x, y, z -> z.drop(0) ? 1 : 0);
        }
        both(when + "move(0, 3)", x, y, z -> z.move(0, 3) ? 1 : 0);
        both(when + "move(1, 2)", x, y, z -> z.move(1, 2) ? 1 : 0);
        both(when + "tick(4)", x, y, z -> z.tick(4) ? 1 : 0);
        both(when + "say(0)", x, y, z -> z.say(0));
        both(when + "say(1)", x, y, z -> z.say(1));
        for (int k = 0; k < 20; k++) {
            both(when + "deliver(0)", x, y, z -> z.deliver(0) ? 1 : 0);
        }
        both(when + "messages()", x, y, z -> z.messages());
        both(when + "registered(0)", x, y, z -> z.registered(0));
        both(when + "registered(1)", x, y, z -> z.registered(1));
    }
}
