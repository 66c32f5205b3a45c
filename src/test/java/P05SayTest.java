/** Promise 5: say. */
public final class P05SayTest {
    public static void main(String[] args) {
        Check c = new Check("promise 5");
        window(c);
        refused(c);
        twoHundred(c);
        fullList(c);
        lastIsWhenOneWasSent(c);
        c.end();
    }

    private static void window(Check c) {
        c.part("window");
        RoamingNet x = new RoamingNet(20, 30, 2);
        c.due("say(1)", x.say(1), 1);
        c.due("say(0)", x.say(0), 1);
        c.due("say(0)", x.say(0), 2);
        c.due("say(0)", x.say(0), 3);
        c.due("say(0)", x.say(0), 4);
        c.due("say(0)", x.say(0), 5);
        c.list(x, 4010001, 4000001, 4000002, 4000003);
        c.due("count(1, 0)", x.count(1, 0), 3);
        c.due("count(1, 1)", x.count(1, 1), 1);
        c.due("count(3, 0)", x.count(3, 0), 5);
        c.due("count(3, 1)", x.count(3, 1), 1);
    }

    private static void refused(Check c) {
        c.part("refused");
        RoamingNet x = new RoamingNet(20, 30, 2);
        int[] bad = {-1, 2, 3, Integer.MIN_VALUE, Integer.MAX_VALUE};
        for (int m : bad) {
            c.due("say(" + m + ")", x.say(m), -1);
        }
        c.due("messages()", x.messages(), 0);
        c.due("count(3, 0)", x.count(3, 0), 0);
        c.due("count(3, 1)", x.count(3, 1), 0);
    }

    private static void twoHundred(Check c) {
        c.part("200 said");
        RoamingNet x = new RoamingNet(20, 30, 2);
        for (int k = 1; k <= 200; k++) {
            c.due("say(0)", x.say(0), k);
        }
        c.due("say(0)", x.say(0), -1);
        c.due("say(0)", x.say(0), -1);
        c.due("count(3, 0)", x.count(3, 0), 200);
        c.due("count(1, 0)", x.count(1, 0), 3);
        c.due("messages()", x.messages(), 3);
        c.due("say(1)", x.say(1), 1);
    }

    private static void fullList(Check c) {
        c.part("full list");
        RoamingNet x = new RoamingNet(20, 30, 2);
        x.say(0);
        Check.fill(x);
        c.due("messages()", x.messages(), 40);
        c.due("say(0)", x.say(0), 2);
        c.due("messages()", x.messages(), 40);
        c.due("count(1, 0)", x.count(1, 0), 2);
        c.due("message(39)", x.message(39), 4000001);
        Check.dropAll(x);
        x.move(0, 4);
        x.move(1, 4);
        x.tick(5);
        c.list(x, 4000001, 4000002);
    }

    private static void lastIsWhenOneWasSent(Check c) {
        c.part("last");
        RoamingNet x = new RoamingNet(20, 30, 2);
        x.move(0, 4);
        x.move(1, 4);
        x.say(0);
        x.tick(3);
        x.say(0);
        x.tick(4);
        c.due("messages() 4 ticks after the second", x.messages(), 2);
        x.tick(1);
        c.due("messages() 5 ticks after the second", x.messages(), 4);
        x.say(0);
        x.tick(3);
        c.due("say(0), which sends nothing", x.say(0), 4);
        x.tick(1);
        c.due("messages()", x.messages(), 5);
        x.tick(1);
        c.due("messages()", x.messages(), 8);
    }
}
