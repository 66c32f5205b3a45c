/** Promises 7, 8, 10 and 11: drop, duplicate, messages and message. */
public final class P07ListTest {
    private static final int[] BAD = {-1, 3, 39, 40, 41, 99, Integer.MIN_VALUE, Integer.MAX_VALUE};

    public static void main(String[] args) {
        Check c = new Check("promises 7, 8, 10, 11");
        drop(c);
        duplicate(c);
        duplicateIsAlikeInAll(c);
        messages(c);
        message(c);
        c.end();
    }

    private static RoamingNet withThree() {
        RoamingNet x = new RoamingNet(20, 30, 2);
        x.say(0);
        x.say(1);
        x.say(0);
        return x;
    }

    private static void drop(Check c) {
        c.part("drop");
        RoamingNet x = withThree();
        for (int i : BAD) {
            c.due("drop(" + i + ")", x.drop(i), false);
        }
        c.list(x, 4000001, 4010001, 4000002);
        c.due("drop(1)", x.drop(1), true);
        c.list(x, 4000001, 4000002);
        c.due("drop(2)", x.drop(2), false);
        c.due("drop(1)", x.drop(1), true);
        c.due("drop(0)", x.drop(0), true);
        c.due("drop(0)", x.drop(0), false);
        c.list(x);
        c.due("count(0, 0)", x.count(0, 0), 0);
        c.due("count(1, 0)", x.count(1, 0), 2);
    }

    private static void duplicate(Check c) {
        c.part("duplicate");
        RoamingNet x = withThree();
        for (int i : BAD) {
            c.due("duplicate(" + i + ")", x.duplicate(i), false);
        }
        c.due("duplicate(1)", x.duplicate(1), true);
        c.list(x, 4000001, 4010001, 4000002, 4010001);
        c.due("duplicate(0)", x.duplicate(0), true);
        c.list(x, 4000001, 4010001, 4000002, 4010001, 4000001);
        for (int k = 5; k < 40; k++) {
            c.due("duplicate(2)", x.duplicate(2), true);
        }
        c.due("messages()", x.messages(), 40);
        c.due("duplicate(0)", x.duplicate(0), false);
        c.due("duplicate(39)", x.duplicate(39), false);
        c.due("duplicate(40)", x.duplicate(40), false);
        c.due("messages()", x.messages(), 40);
        c.due("message(39)", x.message(39), 4000002);
        c.due("message(40)", x.message(40), -1);
        RoamingNet none = new RoamingNet(20, 30, 2);
        c.due("duplicate(0)", none.duplicate(0), false);
    }

    private static void duplicateIsAlikeInAll(Check c) {
        c.part("a duplicated advert keeps its network");
        RoamingNet x = new RoamingNet(20, 30, 2);
        x.move(0, 3);
        x.move(1, 4);
        x.tick(4);
        x.duplicate(0);
        x.drop(0);
        x.deliver(0);
        c.due("open(0)", x.open(0), 1);
        c.part("a duplicated request keeps its seal");
        x.duplicate(0);
        x.drop(0);
        x.deliver(0);
        x.duplicate(0);
        x.drop(0);
        x.deliver(0);
        c.due("binding(0)", x.binding(0), 320);
        c.part("a duplicated reply keeps its seal");
        x.duplicate(0);
        x.drop(0);
        x.deliver(0);
        c.due("visit(3, 0)", x.visit(3, 0), 20);
        x.duplicate(0);
        x.drop(0);
        x.deliver(0);
        c.due("registered(0)", x.registered(0), 3);
        c.part("a replayed request");
        RoamingNet y = Check.askingAt(1, 20, 30, 2);
        y.deliver(0);
        y.duplicate(0);
        y.deliver(0);
        y.tick(5);
        y.deliver(0);
        c.due("binding(0) after the replay", y.binding(0), 115);
    }

    private static void messages(Check c) {
        c.part("messages");
        RoamingNet x = new RoamingNet(20, 30, 2);
        c.due("messages()", x.messages(), 0);
        x.say(0);
        c.due("messages()", x.messages(), 1);
        for (int k = 2; k <= 45; k++) {
            x.duplicate(0);
            c.due("messages()", x.messages(), k < 40 ? k : 40);
        }
        x.tick(4);
        c.due("messages()", x.messages(), 40);
        x.drop(7);
        c.due("messages()", x.messages(), 39);
    }

    private static void message(Check c) {
        c.part("message");
        RoamingNet x = withThree();
        for (int i : BAD) {
            c.due("message(" + i + ")", x.message(i), -1);
        }
        RoamingNet y = new RoamingNet(20, 30, 2);
        y.move(0, 4);
        y.move(1, 2);
        y.tick(4);
        c.list(y, 1510002);
        y.deliver(0);
        c.list(y, 2210001);
        y.deliver(0);
        c.list(y, 2010001);
        y.deliver(0);
        c.list(y, 3210001);
        y.deliver(0);
        c.list(y, 3510001);
        y.deliver(0);
        c.list(y);
        y.say(1);
        c.list(y, 4010001);
        y.deliver(0);
        c.list(y, 5210001);
        y.deliver(0);
        c.list(y, 4510001);
        y.deliver(0);
        c.list(y, 6410001);
        y.deliver(0);
        c.list(y);
        y.inject(3, 1, 2, 9, 9999, 0);
        c.list(y, 2319999);
    }
}
