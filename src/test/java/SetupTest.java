/** Promises 5 (scope), 6 (client), 7 (redirect), 8 (lives), 10 (tick). */
public final class SetupTest {
    private static final String TWENTY = "abcdefghijklmnopqrst";

    public static void main(String[] args) {
        scopes();
        scopesThatAreNone();
        clients();
        clientsThatAreNone();
        secrets();
        redirects();
        redirectsThatAreNone();
        lives();
        ticks();
        Kit.close();
    }

    private static void scopes() {
        Kit kit = new Kit();
        Kit.due("the first SCOPE", 0, kit.scope("!"));
        Kit.due("one of 12 bytes", 1, kit.scope("~23456789012"));
        Kit.due("the TAPE behind it", 0, kit.count(11));
        for (int k = 2; k < 8; k++) {
            Kit.due("SCOPE " + k, k, kit.scope("s" + k));
        }
        Kit.due("how many", 8, kit.count(0));
        kit.throwing("scope() of one that there is, with 8", Kit.ILLEGAL, 0, () -> kit.scope("s2"));
        kit.throwing("scope() of no WORD, with 8", Kit.ILLEGAL, 0, () -> kit.scope(""));
        kit.throwing("scope() with 8", Kit.UNSUPPORTED, 0, () -> kit.scope("s8"));
    }

    private static void scopesThatAreNone() {
        String[] none = {"", " ", "a b", "a\"", "\\", "\"", "a\\b", "1234567890123", "\u001f", "a\u007f", "\0", "\u00ff"};
        for (String word : none) {
            Kit fresh = new Kit();
            fresh.scope("a");
            fresh.throwing("scope() of '" + word + "'", Kit.ILLEGAL, 0, () -> fresh.scope(word));
        }
        Kit kit = new Kit();
        kit.scope("a");
        kit.throwing("scope() of one that there is", Kit.ILLEGAL, 0, () -> kit.scope("a"));
        Kit.due("one that is longer", 1, kit.scope("aa"));
        Kit.due("one with #", 2, kit.scope("#&=%+"));
    }

    private static void clients() {
        Kit kit = new Kit();
        kit.scope("r");
        Kit.due("a PUBLIC one", 0, kit.client(TWENTY, null, 1, true));
        Kit.due("the TAPE behind it", 0, kit.count(11));
        Kit.due("a CONFIDENTIAL one", 1, kit.client("!~\"\\", TWENTY, 0, false));
        for (int k = 2; k < 8; k++) {
            Kit.due("CLIENT " + k, k, kit.client("c" + k, k % 2 == 0 ? null : "s", 0, false));
        }
        Kit.due("how many", 8, kit.count(1));
        kit.throwing("client() of an ID that there is, with 8", Kit.ILLEGAL, 0, () -> kit.client("c2", "s", 1, true));
        kit.throwing("client() of no ID, with 8", Kit.ILLEGAL, 0, () -> kit.client("", null, 1, true));
        kit.throwing("client() of no SCOPE, with 8", Kit.ILLEGAL, 0, () -> kit.client("n", null, 2, true));
        kit.throwing("client() with 8", Kit.UNSUPPORTED, 0, () -> kit.client("n", null, 1, true));
    }

    private static void clientsThatAreNone() {
        String[] none = {"", TWENTY + "u", "a b", "b\0s", "\u007f", "b\u00ff"};
        for (String id : none) {
            Kit kit = Kit.world();
            kit.throwing("client() of '" + id + "'", Kit.ILLEGAL, 0, () -> kit.client(id, null, 0, true));
        }
        int[] noScopes = {8, 15, 256, -1, Integer.MIN_VALUE, Integer.MAX_VALUE};
        for (int bits : noScopes) {
            Kit kit = Kit.world();
            kit.throwing("client() for " + bits, Kit.ILLEGAL, 0, () -> kit.client("b", null, bits, true));
        }
        Kit kit = Kit.world();
        kit.throwing("client() of an ID that there is", Kit.ILLEGAL, 0, () -> kit.client("x", null, 0, true));
        kit.throwing("client() of it with a SECRET", Kit.ILLEGAL, 0, () -> kit.client("x", "s", 0, true));
        kit.throwing("client() of a CONFIDENTIAL one's", Kit.ILLEGAL, 0, () -> kit.client("y", null, 0, true));
        Kit.due("with all SCOPES", 2, kit.client("b", null, 7, true));
    }

    private static void secrets() {
        Kit kit = new Kit();
        String[] none = {"a", "a\0", "\0s", "\0", "a\0" + TWENTY + "u", TWENTY + "u\0s", "a\0s\0t", "a\0s t", "a\0\0s", ""};
        for (String text : none) {
            kit.throwing("client() with a SECRET of '" + text + "'", Kit.ILLEGAL, 0, () -> {
                kit.put(text);
                kit.client(true, 0, true);
            });
        }
        Kit.due("both of 20 bytes", 0, kit.client(TWENTY, TWENTY, 0, true));
        Kit.due("both of 1 byte", 1, kit.client("a", "a", 0, true));
    }

    private static void redirects() {
        Kit kit = new Kit();
        kit.client("a", null, 0, true);
        kit.client("b", null, 0, true);
        String eighty = TWENTY + TWENTY + TWENTY + TWENTY;
        Kit.due("the first REDIRECT", 1, kit.redirect(0, eighty));
        Kit.due("the TAPE behind it", 0, kit.count(11));
        Kit.due("the same once more", 2, kit.redirect(0, eighty));
        Kit.due("the third", 3, kit.redirect(0, "!"));
        Kit.due("another CLIENT's first", 1, kit.redirect(1, "~\"\\?&%+="));
        kit.throwing("redirect() with 3", Kit.UNSUPPORTED, 0, () -> kit.redirect(0, "u"));
        kit.throwing("redirect() of none, with 3", Kit.ILLEGAL, 0, () -> kit.redirect(0, ""));
        kit.throwing("redirect() of none, of no CLIENT", Kit.INDEX, 0, () -> kit.redirect(2, ""));
        Kit.due("another CLIENT's second", 2, kit.redirect(1, "u"));
    }

    private static void redirectsThatAreNone() {
        Kit kit = new Kit();
        kit.throwing("redirect(0) without CLIENTS", Kit.INDEX, 0, () -> kit.redirect(0, "u"));
        kit.client("a", null, 0, true);
        int[] noClients = {-1, 1, 8, Integer.MIN_VALUE, Integer.MAX_VALUE};
        for (int client : noClients) {
            kit.throwing("redirect(" + client + ")", Kit.INDEX, 0, () -> kit.redirect(client, "u"));
        }
        String[] none = {"", "u#v", "#", "u v", "u\u007f", "\0", TWENTY + TWENTY + TWENTY + TWENTY + "u"};
        for (String text : none) {
            kit.throwing("redirect() of '" + text + "'", Kit.ILLEGAL, 0, () -> kit.redirect(0, text));
        }
        Kit.due("the first", 1, kit.redirect(0, "u"));
    }

    private static void lives() {
        int[] none = {0, -1, 1000001, Integer.MIN_VALUE, Integer.MAX_VALUE};
        for (int life : none) {
            Kit kit = Kit.world();
            kit.throwing("lives(" + life + ", 1, 1)", Kit.ILLEGAL, 0, () -> kit.lives(life, 1, 1));
            kit.throwing("lives(1, " + life + ", 1)", Kit.ILLEGAL, 0, () -> kit.lives(1, life, 1));
            kit.throwing("lives(1, 1, " + life + ")", Kit.ILLEGAL, 0, () -> kit.lives(1, 1, life));
        }
        LivesOf.first();
        LivesOf.longest();
        LivesOf.asTheyWereThen();
    }

    private static void ticks() {
        Kit kit = new Kit();
        Kit.due("tick(0)", 0, kit.tick(0));
        Kit.due("tick(1)", 1, kit.tick(1));
        Kit.due("tick(100000)", 100001, kit.tick(100000));
        int[] none = {-1, 100001, Integer.MIN_VALUE, Integer.MAX_VALUE};
        for (int n : none) {
            kit.throwing("tick(" + n + ")", Kit.ILLEGAL, 0, () -> kit.tick(n));
        }
        Kit.due("NOW", 100001, kit.count(10));
        for (int i = 0; i < 300; i++) {
            kit.tick(100000);
        }
        Kit.due("NOW, far on", 30100001, kit.count(10));
    }

    /** When what was given out is not good any more. */
    private static final class LivesOf {
        static void first() {
            Kit kit = Kit.world();
            kit.lives(5, 5, 5);
            Kit.thrown(() -> kit.lives(7, 7, 0));
            kit.start(1, 3, 9);
            kit.tick(4);
            Kit.due("ACCESS at 4 of 5, behind lives() that threw", 9, kit.check(Kit.handle(2), 0));
            kit.tick(1);
            Kit.due("ACCESS at 5 of 5, behind lives() that threw", 0, kit.check(Kit.handle(2), 0));

            Kit other = Kit.world();
            other.give("x", 3, 9, 1);
            other.tick(59);
            Kit.due("a CODE at 59", 0, other.code(0, 0));
            other.roll(2, 3, 4, 5);
            other.redeem(1);
            other.tick(599);
            Kit.due("ACCESS at 599", 9, other.check(Kit.handle(2), 0));
            other.tick(1);
            Kit.due("ACCESS at 600", 0, other.check(Kit.handle(2), 0));
            other.tick(9399);
            Kit.due("REFRESH at 9999", 200, other.turn(3, ""));
            other.tick(10000);
            Kit.due("REFRESH at 10000", 400, other.turn(5, ""));

            Kit late = Kit.world();
            late.give("x", 3, 9, 1);
            late.tick(60);
            Kit.due("a CODE at 60", 2, late.code(0, 0));
        }

        static void longest() {
            Kit kit = Kit.world();
            kit.lives(1000000, 1000000, 1000000);
            kit.start(1, 3, 9);
            kit.give("x", 3, 9, 4);
            for (int i = 0; i < 9; i++) {
                kit.tick(100000);
            }
            kit.tick(99999);
            Kit.due("ACCESS ahead of the end", 9, kit.check(Kit.handle(2), 0));
            Kit.due("a CODE ahead of the end", 0, kit.code(1, 0));
            kit.tick(1);
            Kit.due("ACCESS at the end", 0, kit.check(Kit.handle(2), 0));
            Kit.due("a CODE at the end", 2, kit.code(1, 0));
            kit.roll(5, 6);
            Kit.due("REFRESH at the end", 400, kit.turn(3, ""));

            Kit brief = Kit.world();
            brief.lives(1, 1, 1);
            brief.start(1, 3, 9);
            Kit.due("ACCESS at once", 9, brief.check(Kit.handle(2), 0));
            brief.give("x", 3, 9, 4);
            brief.tick(1);
            Kit.due("ACCESS at 1 of 1", 0, brief.check(Kit.handle(2), 0));
            Kit.due("a CODE at 1 of 1", 2, brief.code(1, 0));
        }

        static void asTheyWereThen() {
            Kit kit = Kit.world();
            kit.lives(10, 20, 30);
            kit.start(1, 3, 9);
            kit.give("x", 3, 9, 4);
            kit.lives(1, 1, 1);
            kit.tick(9);
            Kit.due("a CODE at 9 of 10", 0, kit.code(1, 0));
            kit.tick(1);
            Kit.due("a CODE at 10 of 10", 2, kit.code(1, 0));
            kit.tick(9);
            Kit.due("ACCESS at 19 of 20", 1, kit.family(0, 4));
            kit.tick(1);
            Kit.due("ACCESS at 20 of 20", 0, kit.family(0, 4));
            kit.tick(9);
            kit.roll(5, 6, 7, 8);
            Kit.due("REFRESH at 29 of 30", 200, kit.turn(3, ""));
            kit.tick(1);
            Kit.due("the new REFRESH at 1 of 1", 400, kit.turn(6, ""));
            Kit.due("it is not TAKEN BACK", 0, kit.family(0, 0));
        }
    }
}
