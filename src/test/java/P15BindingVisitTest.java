/** Promises 15 and 16: binding and visit. */
public final class P15BindingVisitTest {
    public static void main(String[] args) {
        Check c = new Check("promises 15 and 16");
        wrong(c);
        lasting(c);
        everyAgent(c);
        renewed(c);
        c.end();
    }

    private static void wrong(Check c) {
        c.part("wrong inputs");
        RoamingNet x = new RoamingNet(20, 30, 2);
        x.move(0, 1);
        x.move(1, 3);
        x.tick(4);
        Check.deliverAll(x);
        int[] noMobile = {-1, 2, 3, Integer.MIN_VALUE, Integer.MAX_VALUE};
        for (int m : noMobile) {
            c.due("binding(" + m + ")", x.binding(m), 0);
            c.due("visit(1, " + m + ")", x.visit(1, m), 0);
        }
        int[] noForeign = {-1, 0, 4, 5, Integer.MIN_VALUE, Integer.MAX_VALUE};
        for (int a : noForeign) {
            c.due("visit(" + a + ", 0)", x.visit(a, 0), 0);
            c.due("visit(" + a + ", 1)", x.visit(a, 1), 0);
        }
        c.due("visit(1, 0)", x.visit(1, 0), 20);
        c.due("visit(1, 1)", x.visit(1, 1), 0);
        c.due("visit(3, 1)", x.visit(3, 1), 20);
        c.due("visit(2, 0)", x.visit(2, 0), 0);
        c.due("binding(0)", x.binding(0), 120);
        c.due("binding(1)", x.binding(1), 320);
    }

    private static void lasting(Check c) {
        c.part("lasting");
        RoamingNet x = Check.askingAt(2, 8, 30, 2);
        Check.deliverFirst(x, 2);
        x.tick(2);
        x.deliver(0);
        x.move(0, 4);
        for (int left = 6; left >= 0; left--) {
            c.due("binding(0)", x.binding(0), left > 0 ? 200 + left : 0);
            c.due("visit(2, 0)", x.visit(2, 0), left + 2);
            x.tick(1);
        }
        c.due("visit(2, 0)", x.visit(2, 0), 1);
        x.tick(1);
        c.due("visit(2, 0)", x.visit(2, 0), 0);
        x.tick(20);
        c.due("binding(0)", x.binding(0), 0);
        c.due("visit(2, 0)", x.visit(2, 0), 0);
    }

    private static void everyAgent(Check c) {
        c.part("every agent");
        for (int a = 1; a < 4; a++) {
            RoamingNet x = Check.registeredAt(a, 60, 60, 1);
            c.due("binding(0)", x.binding(0), 100 * a + 60);
            for (int other = 1; other < 4; other++) {
                c.due("visit", x.visit(other, 0), other == a ? 60 : 0);
            }
        }
    }

    private static void renewed(Check c) {
        c.part("renewed");
        RoamingNet x = Check.registeredAt(1, 6, 30, 2);
        x.tick(4);
        c.due("binding(0) at 8", x.binding(0), 102);
        Check.deliverAll(x);
        c.due("binding(0) renewed", x.binding(0), 106);
        c.due("visit(1, 0) renewed", x.visit(1, 0), 6);
        x.move(0, 3);
        x.tick(4);
        Check.deliverAll(x);
        c.due("binding(0) elsewhere", x.binding(0), 306);
        c.due("visit(1, 0) lasts on", x.visit(1, 0), 2);
        c.due("visit(3, 0)", x.visit(3, 0), 6);
    }
}
