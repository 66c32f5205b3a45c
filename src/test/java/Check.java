/** What the tests share: it tells every answer that is not the one due, and ends with exit code 1 if there was one. */
final class Check {
    private final String title;
    private String part = "";
    private int asked = 0;
    private int wrong = 0;

    Check(String title) {
        this.title = title;
    }

    void part(String name) {
        part = name;
    }

    void due(String call, long got, long want) {
        asked++;
        if (got != want) {
            wrong++;
            System.out.println(title + ", " + part + ": " + call + " answered " + got + ", due is " + want);
        }
    }

    void due(String call, boolean got, boolean want) {
        due(call, got ? 1L : 0L, want ? 1L : 0L);
    }

    void end() {
        System.out.println(title + ": " + asked + " answers, " + wrong + " wrong");
        if (asked == 0 || wrong != 0) {
            System.exit(1);
        }
    }

    /** The list under way is exactly these, in this order. */
    void list(RoamingNet x, int... want) {
        due("messages()", x.messages(), want.length);
        for (int i = 0; i < want.length; i++) {
            due("message(" + i + ")", x.message(i), want[i]);
        }
    }

    /** The document's seal, written here once more. */
    static int seal(int secret, int... numbers) {
        int h = secret;
        for (int number : numbers) {
            h = (h ^ number) * 16777619;
            h = h ^ (h >>> 15);
        }
        return h;
    }

    static int requestSeal(int secret, int m, int careOf, int lifetime, int id) {
        return seal(secret, 2, m, careOf, lifetime, id);
    }

    /** Message 0 arrives, n times over. */
    static void deliverFirst(RoamingNet x, int n) {
        for (int k = 0; k < n; k++) {
            x.deliver(0);
        }
    }

    /** Message 0 arrives until none is under way. */
    static void deliverAll(RoamingNet x) {
        for (int k = 0; k < 200 && x.deliver(0); k++) {
            // the call itself is all there is to do
        }
    }

    static void dropAll(RoamingNet x) {
        for (int k = 0; k < 40 && x.drop(0); k++) {
            // the call itself is all there is to do
        }
    }

    /** Fills the list up to 40 with copies of message 0. */
    static void fill(RoamingNet x) {
        for (int k = 0; k < 40 && x.duplicate(0); k++) {
            // the call itself is all there is to do
        }
    }

    /** A new object whose clock is 4 and whose mobile 0 has just been registered with agent a. */
    static RoamingNet registeredAt(int a, int life, int limit, int places) {
        RoamingNet x = new RoamingNet(life, limit, places);
        x.move(0, a);
        x.move(1, 4);
        x.tick(4);
        deliverAll(x);
        return x;
    }

    /** A new object whose clock is 4 and whose mobile 0, in network a, has just sent request 1. */
    static RoamingNet askingAt(int a, int life, int limit, int places) {
        RoamingNet x = new RoamingNet(life, limit, places);
        x.move(0, a);
        x.move(1, 4);
        x.tick(4);
        x.deliver(0);
        return x;
    }
}
