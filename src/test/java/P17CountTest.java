/** Promise 17: count. */
public final class P17CountTest {
    public static void main(String[] args) {
        Check c = new Check("promise 17");
        wrong(c);
        eachCount(c);
        allArriveInTheEnd(c);
        c.end();
    }

    private static void wrong(Check c) {
        c.part("wrong inputs");
        RoamingNet x = new RoamingNet(20, 30, 2);
        x.say(0);
        int[] bad = {-1, 4, 5, Integer.MIN_VALUE, Integer.MAX_VALUE};
        for (int which : bad) {
            c.due("count(" + which + ", 0)", x.count(which, 0), -1);
            c.due("count(" + which + ", 7)", x.count(which, 7), -1);
        }
        int[] noMobile = {-1, 2, Integer.MIN_VALUE, Integer.MAX_VALUE};
        for (int m : noMobile) {
            for (int which = 0; which < 4; which++) {
                c.due("count(" + which + ", " + m + ")", x.count(which, m), -1);
            }
        }
    }

    private static void counts(Check c, RoamingNet x, int m, int received, int sent, int acked, int said) {
        c.due("count(0, " + m + ")", x.count(0, m), received);
        c.due("count(1, " + m + ")", x.count(1, m), sent);
        c.due("count(2, " + m + ")", x.count(2, m), acked);
        c.due("count(3, " + m + ")", x.count(3, m), said);
    }

    private static void eachCount(Check c) {
        c.part("each count");
        RoamingNet x = new RoamingNet(20, 30, 2);
        for (int k = 0; k < 5; k++) {
            x.say(1);
        }
        counts(c, x, 1, 0, 3, 0, 5);
        counts(c, x, 0, 0, 0, 0, 0);
        Check.deliverFirst(x, 5);
        counts(c, x, 1, 2, 3, 0, 5);
        x.deliver(1);
        counts(c, x, 1, 2, 4, 1, 5);
        counts(c, x, 0, 0, 0, 0, 0);
        Check.deliverAll(x);
        counts(c, x, 1, 5, 5, 5, 5);
        counts(c, x, 0, 0, 0, 0, 0);
    }

    private static void allArriveInTheEnd(Check c) {
        c.part("all arrive in the end");
        RoamingNet x = new RoamingNet(20, 30, 2);
        for (int k = 0; k < 12; k++) {
            x.say(0);
        }
        int[] tour = {1, 2, 0, 3, 4, 3, 1, 0};
        for (int place : tour) {
            x.move(0, place);
            x.drop(1);
            x.duplicate(0);
            x.tick(5);
            for (int k = 0; k < 20 && x.deliver(k % 3 == 0 ? x.messages() - 1 : 0); k++) {
                // the call itself is all there is to do
            }
        }
        for (int k = 0; k < 4; k++) {
            x.tick(5);
            for (int n = 0; n < 30 && x.deliver(0); n++) {
                // the call itself is all there is to do
            }
        }
        counts(c, x, 0, 12, 12, 12, 12);
    }
}
