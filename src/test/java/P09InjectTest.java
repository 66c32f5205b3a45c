/** Promise 9: inject. */
public final class P09InjectTest {
    public static void main(String[] args) {
        Check c = new Check("promise 9");
        sent(c);
        refused(c);
        full(c);
        c.end();
    }

    private static void sent(Check c) {
        c.part("sent");
        RoamingNet x = new RoamingNet(20, 30, 2);
        c.due("inject(0, 0, 0, 0, 1, 5)", x.inject(0, 0, 0, 0, 1, 5), true);
        c.due("inject(3, 1, 3, 60, 9999, -5)", x.inject(3, 1, 3, 60, 9999, -5), true);
        c.due("inject(2, 0, 1, 1, 77, min)", x.inject(2, 0, 1, 1, 77, Integer.MIN_VALUE), true);
        c.due("inject(1, 1, 0, 0, 78, max)", x.inject(1, 1, 0, 0, 78, Integer.MAX_VALUE), true);
        c.list(x, 2000001, 2319999, 2200077, 2110078);
        c.due("open(0)", x.open(0), 0);
        c.due("open(1)", x.open(1), 0);
        c.part("with the seal that is due");
        RoamingNet y = new RoamingNet(20, 30, 2);
        y.key(0, 1, -99);
        y.inject(2, 1, 2, 11, 9999, Check.requestSeal(-99, 1, 2, 11, 9999));
        Check.deliverFirst(y, 3);
        c.due("binding(1)", y.binding(1), 211);
        c.due("visit(2, 1)", y.visit(2, 1), 11);
        c.list(y, 3519999);
    }

    private static void refused(Check c) {
        c.part("refused");
        RoamingNet x = new RoamingNet(20, 30, 2);
        int[] noAgent = {-1, 4, 5, Integer.MIN_VALUE, Integer.MAX_VALUE};
        for (int a : noAgent) {
            c.due("inject with agent " + a, x.inject(a, 0, 1, 9, 1, 0), false);
            c.due("inject with care-of " + a, x.inject(0, 0, a, 9, 1, 0), false);
            c.due("inject with care-of " + a + " for 0", x.inject(0, 0, a, 0, 1, 0), false);
        }
        int[] noMobile = {-1, 2, Integer.MIN_VALUE, Integer.MAX_VALUE};
        for (int m : noMobile) {
            c.due("inject with mobile " + m, x.inject(0, m, 1, 9, 1, 0), false);
        }
        int[] noLifetime = {-1, 0, 61, Integer.MIN_VALUE, Integer.MAX_VALUE};
        for (int lifetime : noLifetime) {
            c.due("inject for " + lifetime, x.inject(0, 0, 1, lifetime, 1, 0), false);
        }
        int[] noLifetimeAtHome = {-1, 1, 60, 61, Integer.MIN_VALUE, Integer.MAX_VALUE};
        for (int lifetime : noLifetimeAtHome) {
            c.due("inject at home for " + lifetime, x.inject(0, 0, 0, lifetime, 1, 0), false);
        }
        int[] noId = {0, -1, 10000, Integer.MIN_VALUE, Integer.MAX_VALUE};
        for (int id : noId) {
            c.due("inject with ID " + id, x.inject(0, 0, 1, 9, id, 0), false);
        }
        c.list(x);
    }

    private static void full(Check c) {
        c.part("full");
        RoamingNet x = new RoamingNet(20, 30, 2);
        for (int k = 1; k <= 40; k++) {
            c.due("inject", x.inject(0, 0, 1, 9, k, 0), true);
        }
        c.due("inject the 41st", x.inject(0, 0, 1, 9, 41, 0), false);
        c.due("messages()", x.messages(), 40);
        c.due("message(39)", x.message(39), 2000040);
        x.drop(0);
        c.due("inject", x.inject(0, 0, 1, 9, 42, 0), true);
        c.due("message(39)", x.message(39), 2000042);
    }
}
