/** Promise 13 (token), of a refresh_token. */
public final class TurnTest {
    public static void main(String[] args) {
        turns();
        scopes();
        noScopes();
        wrongOnes();
        shownAgain();
        takenBack();
        tooLate();
        tooFewHandles();
        manyTimes();
        Kit.close();
    }

    private static String tokens(int access, int refresh, String scope) {
        return "{\"access_token\":\"" + Kit.handle(access) + "\",\"token_type\":\"Bearer\",\"expires_in\":600,"
            + "\"refresh_token\":\"" + Kit.handle(refresh) + "\",\"scope\":\"" + scope + "\"}";
    }

    private static void turns() {
        Kit kit = Kit.world();
        kit.start(1, 3, 5);
        kit.roll(4, 5);
        Kit.due("token()", 200, kit.turn(3, ""));
        kit.answered("token()", 200, 0, tokens(4, 5, "r w"));
        Kit.due("the TAPE behind it", 0, kit.count(11));
        Kit.due("how often it TURNED", 1, kit.family(0, 5));
        Kit.due("ACCESS tokens that are good", 2, kit.family(0, 4));
        Kit.due("ACCESS tokens", 2, kit.count(7));
        Kit.due("REFRESH tokens", 2, kit.count(8));
        Kit.due("FAMILIES", 1, kit.count(6));
        Kit.due("the earlier ACCESS token", 5, kit.check(Kit.handle(2), 1));
        Kit.due("the new ACCESS token", 5, kit.check(Kit.handle(4), 1));
    }

    private static void scopes() {
        Kit kit = Kit.world();
        kit.start(1, 3, 5);
        kit.roll(4, 5, 6, 7, 8, 9);
        kit.turn(3, "&scope=+w+");
        kit.answered("fewer SCOPES", 200, 0, tokens(4, 5, "w"));
        Kit.due("r of the ACCESS token", 0, kit.check(Kit.handle(4), 0));
        Kit.due("the FAMILY's SCOPES stay", 3, kit.family(0, 3));
        kit.turn(5, "&scope=w+r+w");
        kit.answered("the FAMILY's SCOPES, by their numbers", 200, 0, tokens(6, 7, "r w"));
        kit.turn(7, "&scope=");
        Kit.due("an empty scope is none", 5, kit.check(Kit.handle(8), 0));

        Kit blank = Kit.world();
        blank.start(1, 3, 5);
        blank.roll(4, 5);
        blank.turn(3, "&scope=+");
        blank.answered("blanks alone", 200, 0, tokens(4, 5, ""));
        Kit.due("a SCOPE of it", 0, blank.check(Kit.handle(4), 0));
        blank.answered("a SCOPE of it", 403, 10, 0);
    }

    private static void noScopes() {
        Kit kit = Kit.world();
        kit.start(1, 2, 5);
        kit.roll(4, 5);
        String[] none = {"&scope=r", "&scope=w+r", "&scope=a", "&scope=w+z", "&scope=W"};
        for (String scope : none) {
            Kit.due("token() with " + scope, 400, kit.turn(3, scope));
            kit.refused("token() with " + scope, 400, 5, "invalid_scope");
        }
        Kit.due("it has not TURNED", 0, kit.family(0, 5));
        Kit.due("DICE that wait", 2, kit.count(2));
        Kit.due("then it turns", 200, kit.turn(3, "&scope=w"));
    }

    private static void wrongOnes() {
        Kit kit = Kit.world();
        kit.client("z", null, 7, true);
        kit.start(1, 3, 5);
        kit.roll(4, 5);
        Kit.due("no refresh_token", 400, kit.token("grant_type=refresh_token&client_id=x"));
        kit.refused("no refresh_token", 400, 1, "invalid_request");
        Kit.due("an empty one", 400, kit.token("grant_type=refresh_token&client_id=x&refresh_token="));
        Kit.due("its error", 1, kit.error());
        String[] wrong = {"x&refresh_token=a", "x&refresh_token=" + Kit.handle(3) + "A", "x&refresh_token=" + Kit.handle(2),
            "x&refresh_token=" + Kit.handle(1), "x&refresh_token=" + Kit.handle(4), "z&refresh_token=" + Kit.handle(3),
            "y&client_secret=s&refresh_token=" + Kit.handle(3), "x&scope=z&refresh_token=" + Kit.handle(2)};
        for (String form : wrong) {
            Kit.due("token() of " + form, 400, kit.token("grant_type=refresh_token&client_id=" + form));
            kit.answered("token() of " + form, 400, 7, 25);
        }
        Kit.due("who asks goes ahead", 401, kit.token("grant_type=refresh_token&client_id=y&refresh_token=" + Kit.handle(3)));
        Kit.due("the FAMILY is well", 0, kit.family(0, 0));
        Kit.due("it has not TURNED", 0, kit.family(0, 5));
        Kit.due("then it turns", 200, kit.turn(3, ""));
    }

    private static void shownAgain() {
        Kit kit = Kit.world();
        kit.client("z", null, 7, true);
        kit.start(1, 3, 5);
        kit.start(11, 3, 6);
        kit.roll(4, 5);
        kit.turn(3, "");
        Kit.due("another CLIENT shows it", 400, kit.token("grant_type=refresh_token&client_id=z&refresh_token=" + Kit.handle(3)));
        Kit.due("the FAMILY is well", 0, kit.family(0, 0));
        kit.tick(10000);
        Kit.due("late, with an unknown scope, without DICE", 400, kit.turn(3, "&scope=z"));
        kit.refused("it is shown again", 400, 7, "invalid_grant");
        Kit.due("the FAMILY is TAKEN BACK", 1, kit.family(0, 0));
        Kit.due("the other one is not", 0, kit.family(1, 0));
        Kit.due("FAMILIES that are", 1, kit.count(9));
        Kit.due("how often it TURNED", 1, kit.family(0, 5));
    }

    private static void takenBack() {
        Kit kit = Kit.world();
        kit.start(1, 3, 5);
        kit.roll(4, 5, 6, 7);
        kit.turn(3, "");
        kit.turn(3, "");
        Kit.due("ACCESS tokens that are good", 0, kit.family(0, 4));
        Kit.due("the earlier ACCESS token", 0, kit.check(Kit.handle(2), 0));
        Kit.due("the later ACCESS token", 0, kit.check(Kit.handle(4), 0));
        kit.answered("the later ACCESS token", 401, 9, 0);
        Kit.due("the LIVE one", 400, kit.turn(5, ""));
        kit.answered("the LIVE one", 400, 7, 25);
        Kit.due("the one that TURNED, once more", 400, kit.turn(3, ""));
        Kit.due("with an unknown scope", 400, kit.turn(5, "&scope=z"));
        Kit.due("its error", 7, kit.error());
        Kit.due("DICE that wait", 2, kit.count(2));
        Kit.due("tokens stay counted", 2, kit.count(8));
    }

    private static void tooLate() {
        Kit kit = Kit.world();
        kit.lives(60, 600, 10);
        kit.start(1, 3, 5);
        kit.roll(4, 5, 6, 7);
        kit.tick(9);
        Kit.due("ahead of its end", 200, kit.turn(3, ""));
        kit.tick(10);
        Kit.due("at its end, with an unknown scope", 400, kit.turn(5, "&scope=z"));
        kit.refused("at its end", 400, 7, "invalid_grant");
        Kit.due("the FAMILY is well", 0, kit.family(0, 0));
        Kit.due("its ACCESS tokens are good", 2, kit.family(0, 4));
    }

    private static void tooFewHandles() {
        Kit kit = Kit.world();
        kit.start(1, 3, 5);
        Kit.due("none", 503, kit.turn(3, ""));
        kit.roll(4, 4);
        Kit.due("one of two", 503, kit.turn(3, ""));
        kit.refused("one of two", 503, 11, "temporarily_unavailable");
        Kit.due("scope goes ahead", 400, kit.turn(3, "&scope=a"));
        Kit.due("its error", 5, kit.error());
        Kit.due("DICE that wait", 2, kit.count(2));
        Kit.due("it has not TURNED", 0, kit.family(0, 5));
        Kit.due("ACCESS tokens", 1, kit.count(7));
        kit.roll(5);
        Kit.due("two", 200, kit.turn(3, ""));
    }

    private static void manyTimes() {
        Kit kit = Kit.world();
        kit.start(1, 3, 5);
        for (int i = 0; i < 40; i++) {
            kit.roll(4 + 2 * i, 5 + 2 * i);
            Kit.due("turn " + i, 200, kit.turn(3 + 2 * i, ""));
        }
        Kit.due("how often it TURNED", 40, kit.family(0, 5));
        Kit.due("ACCESS tokens that are good", 41, kit.family(0, 4));
        Kit.due("REFRESH tokens", 41, kit.count(8));
    }
}
