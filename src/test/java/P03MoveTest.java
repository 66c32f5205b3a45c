/** Promises 3 and 12: move and place. */
public final class P03MoveTest {
    public static void main(String[] args) {
        Check c = new Check("promises 3 and 12");
        everyPlace(c);
        refused(c);
        lostOutsideTheNetwork(c);
        leavingKeepsTheRest(c);
        c.end();
    }

    private static void everyPlace(Check c) {
        c.part("every place");
        for (int m = 0; m < 2; m++) {
            RoamingNet x = new RoamingNet(20, 30, 2);
            for (int place = 4; place >= 0; place--) {
                c.due("move", x.move(m, place), true);
                c.due("place", x.place(m), place);
                c.due("place of the other", x.place(1 - m), 0);
                c.due("move to where it is", x.move(m, place), true);
                c.due("messages()", x.messages(), 0);
            }
        }
    }

    private static void refused(Check c) {
        c.part("refused");
        RoamingNet x = new RoamingNet(20, 30, 2);
        x.move(0, 3);
        c.due("move(0, 5)", x.move(0, 5), false);
        c.due("move(0, -1)", x.move(0, -1), false);
        c.due("move(2, 1)", x.move(2, 1), false);
        c.due("move(-1, 1)", x.move(-1, 1), false);
        c.due("move(max, min)", x.move(Integer.MAX_VALUE, Integer.MIN_VALUE), false);
        c.due("place(0)", x.place(0), 3);
        c.due("place(1)", x.place(1), 0);
        c.due("place(2)", x.place(2), -1);
        c.due("place(-1)", x.place(-1), -1);
        c.due("place(min)", x.place(Integer.MIN_VALUE), -1);
    }

    private static void lostOutsideTheNetwork(Check c) {
        c.part("lost outside the network");
        for (int away = 0; away <= 4; away++) {
            RoamingNet x = new RoamingNet(20, 30, 2);
            x.move(0, 2);
            x.move(1, 4);
            x.tick(4);
            c.list(x, 1500002);
            x.move(0, away);
            c.due("deliver(0)", x.deliver(0), true);
            c.due("open(0) in " + away, x.open(0), away == 2 ? 1 : 0);
            c.due("messages() in " + away, x.messages(), away == 2 ? 1 : 0);
        }
        RoamingNet back = new RoamingNet(20, 30, 2);
        back.move(0, 2);
        back.tick(4);
        back.move(0, 4);
        back.move(0, 2);
        back.deliver(1);
        c.due("open(0) after it came back", back.open(0), 1);
    }

    private static void leavingKeepsTheRest(Check c) {
        c.part("leaving keeps the rest");
        RoamingNet x = Check.registeredAt(1, 20, 30, 2);
        x.move(0, 4);
        c.due("registered(0)", x.registered(0), 1);
        c.due("binding(0)", x.binding(0), 120);
        c.due("visit(1, 0)", x.visit(1, 0), 20);
        c.due("messages()", x.messages(), 0);
        x.tick(4);
        c.due("messages() with nobody in a network", x.messages(), 0);
    }
}
