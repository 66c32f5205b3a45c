/** Promise 1: a new object. */
public final class P01NewObjectTest {
    private static final int[] ODD = {5, 61, 0, -1, -20, Integer.MIN_VALUE, Integer.MAX_VALUE};
    private static final int[] GOOD = {6, 7, 20, 30, 59, 60};

    public static void main(String[] args) {
        Check c = new Check("promise 1");
        firstState(c);
        life(c);
        limit(c);
        places(c);
        secretsAreZero(c);
        c.end();
    }

    private static void firstState(Check c) {
        c.part("first state");
        RoamingNet x = new RoamingNet(10, 10, 2);
        c.due("messages()", x.messages(), 0);
        c.due("message(0)", x.message(0), -1);
        for (int m = 0; m < 2; m++) {
            c.due("place", x.place(m), 0);
            c.due("registered", x.registered(m), 0);
            c.due("open", x.open(m), 0);
            c.due("binding", x.binding(m), 0);
            for (int a = 0; a < 4; a++) {
                c.due("visit", x.visit(a, m), 0);
            }
            for (int which = 0; which < 4; which++) {
                c.due("count", x.count(which, m), 0);
            }
        }
        x.tick(3);
        c.list(x);
        x.tick(1);
        c.list(x, 1500000, 1510000);
        x.deliver(0);
        c.due("open(0) after the home advert", x.open(0), 0);
    }

    private static int grantedBinding(int life, int limit) {
        RoamingNet x = Check.askingAt(1, life, limit, 2);
        Check.deliverFirst(x, 2);
        return x.binding(0);
    }

    private static void life(Check c) {
        c.part("life");
        for (int life : ODD) {
            c.due("binding with life " + life, grantedBinding(life, 60), 120);
        }
        for (int life : GOOD) {
            c.due("binding with life " + life, grantedBinding(life, 60), 100 + life);
        }
    }

    private static void limit(Check c) {
        c.part("limit");
        for (int limit : ODD) {
            c.due("binding with limit " + limit, grantedBinding(60, limit), 130);
        }
        for (int limit : GOOD) {
            c.due("binding with limit " + limit, grantedBinding(60, limit), 100 + limit);
        }
    }

    private static void places(Check c) {
        c.part("places");
        int[] given = {1, 0, 2, 3, -1, Integer.MAX_VALUE, Integer.MIN_VALUE};
        for (int places : given) {
            RoamingNet x = new RoamingNet(20, 30, places);
            x.move(0, 1);
            x.move(1, 1);
            x.tick(4);
            Check.deliverAll(x);
            c.due("visit(1, 0) with places " + places, x.visit(1, 0), 20);
            c.due("visit(1, 1) with places " + places, x.visit(1, 1), places == 1 ? 0 : 20);
        }
    }

    private static void secretsAreZero(Check c) {
        c.part("secrets");
        RoamingNet x = new RoamingNet(20, 30, 2);
        for (int m = 0; m < 2; m++) {
            x.inject(0, m, 2, 9, 1, Check.requestSeal(0, m, 2, 9, 1));
            x.deliver(0);
            c.due("binding(" + m + ")", x.binding(m), 209);
            Check.dropAll(x);
            RoamingNet y = new RoamingNet(20, 30, 2);
            y.move(m, 3);
            y.tick(4);
            Check.deliverAll(y);
            c.due("registered(" + m + ")", y.registered(m), 3);
        }
    }
}
