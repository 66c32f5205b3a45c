/** Promise 2: key. */
public final class P02KeyTest {
    private static final int[] SECRETS = {1, -1, 77, 16777619, Integer.MAX_VALUE, Integer.MIN_VALUE};

    public static void main(String[] args) {
        Check c = new Check("promise 2");
        bothSides(c);
        oneSide(c);
        eachMobileItsOwn(c);
        changedOnTheWay(c);
        refused(c);
        c.end();
    }

    private static void bothSides(Check c) {
        c.part("both sides");
        for (int secret : SECRETS) {
            RoamingNet x = new RoamingNet(20, 30, 2);
            c.due("key(0, 0, s)", x.key(0, 0, secret), true);
            c.due("key(1, 0, s)", x.key(1, 0, secret), true);
            x.move(0, 2);
            x.tick(4);
            Check.deliverAll(x);
            c.due("registered(0) with secret " + secret, x.registered(0), 2);
            c.due("binding(0) with secret " + secret, x.binding(0), 220);
        }
    }

    private static void oneSide(Check c) {
        for (int side = 0; side < 2; side++) {
            c.part("side " + side + " alone");
            RoamingNet x = new RoamingNet(20, 30, 2);
            c.due("key", x.key(side, 0, 5), true);
            x.move(0, 2);
            x.tick(4);
            Check.deliverAll(x);
            c.due("registered(0)", x.registered(0), 0);
            c.due("binding(0)", x.binding(0), 0);
            c.due("visit(2, 0)", x.visit(2, 0), 0);
            // A reply with a seal of another secret is as none.
            c.due("open(0)", x.open(0), 1);
        }
    }

    private static void eachMobileItsOwn(Check c) {
        c.part("each mobile");
        RoamingNet x = new RoamingNet(20, 30, 2);
        x.key(0, 1, 6);
        x.inject(0, 0, 1, 9, 1, Check.requestSeal(0, 0, 1, 9, 1));
        x.inject(0, 1, 1, 9, 1, Check.requestSeal(0, 1, 1, 9, 1));
        Check.deliverFirst(x, 2);
        c.due("binding(0)", x.binding(0), 109);
        c.due("binding(1)", x.binding(1), 0);
        x.inject(0, 1, 1, 9, 1, Check.requestSeal(6, 1, 1, 9, 1));
        x.deliver(2);
        c.due("binding(1)", x.binding(1), 109);
    }

    private static void changedOnTheWay(Check c) {
        c.part("changed on the way");
        RoamingNet x = Check.askingAt(1, 20, 30, 2);
        Check.deliverFirst(x, 3);
        c.list(x, 3500001);
        x.key(1, 0, 9);
        x.duplicate(0);
        x.deliver(0);
        c.due("open(0)", x.open(0), 1);
        c.due("registered(0)", x.registered(0), 0);
        x.key(1, 0, 0);
        x.deliver(0);
        c.due("open(0)", x.open(0), 0);
        c.due("registered(0)", x.registered(0), 1);
    }

    private static void refused(Check c) {
        c.part("refused");
        RoamingNet x = new RoamingNet(20, 30, 2);
        c.due("key(-1, 0, 1)", x.key(-1, 0, 1), false);
        c.due("key(2, 0, 1)", x.key(2, 0, 1), false);
        c.due("key(0, -1, 1)", x.key(0, -1, 1), false);
        c.due("key(1, -1, 1)", x.key(1, -1, 1), false);
        c.due("key(0, 2, 1)", x.key(0, 2, 1), false);
        c.due("key(1, 2, 1)", x.key(1, 2, 1), false);
        c.due("key(min, max, 1)", x.key(Integer.MIN_VALUE, Integer.MAX_VALUE, 1), false);
        x.move(0, 1);
        x.move(1, 1);
        x.tick(4);
        Check.deliverAll(x);
        c.due("registered(0)", x.registered(0), 1);
        c.due("registered(1)", x.registered(1), 1);
    }
}
