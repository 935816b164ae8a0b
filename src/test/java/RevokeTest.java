/** Promise 14 (revoke). */
public final class RevokeTest {
    public static void main(String[] args) {
        errors();
        refreshTokens();
        accessTokens();
        nothing();
        Kit.close();
    }

    private static void errors() {
        Kit kit = Kit.world();
        kit.start(1, 3, 5);
        Kit.due("BAD", 400, kit.revoke("client_id=z&a=%"));
        kit.refused("BAD", 400, 1, "invalid_request");
        Kit.due("the TAPE behind it", 0, kit.count(11));
        String[] noOne = {"", "client_id=z", "client_id=y", "client_id=x&client_secret=s", "client_id=y&client_secret=t"};
        for (String who : noOne) {
            Kit.due("revoke() by '" + who + "'", 401, kit.revoke(who + "&token=" + Kit.handle(3)));
            kit.answered("revoke() by '" + who + "'", 401, 6, 26);
        }
        kit.refused("who asks", 401, 6, "invalid_client");
        Kit.due("no token", 400, kit.revoke("client_id=x"));
        kit.refused("no token", 400, 1, "invalid_request");
        Kit.due("an empty token", 400, kit.revoke("client_id=x&token="));
        Kit.due("its error", 1, kit.error());
        Kit.due("no token, of no one", 401, kit.revoke("client_id=z"));
        Kit.due("the FAMILY is well", 0, kit.family(0, 0));
    }

    private static void refreshTokens() {
        Kit kit = Kit.world();
        kit.start(1, 3, 5);
        kit.start(11, 3, 6);
        kit.roll(4, 5);
        kit.turn(3, "");
        Kit.due("the LIVE one", 200, kit.revoke("client_id=x&token=" + Kit.handle(5)));
        kit.answered("the LIVE one", 200, 0, 0);
        Kit.due("the FAMILY is TAKEN BACK", 1, kit.family(0, 0));
        Kit.due("the other one is not", 0, kit.family(1, 0));
        Kit.due("ACCESS tokens that are good", 0, kit.family(0, 4));
        Kit.due("FAMILIES that are", 1, kit.count(9));
        Kit.due("once more", 200, kit.revoke("client_id=x&token=" + Kit.handle(5)));
        Kit.due("FAMILIES that are", 1, kit.count(9));
        kit.roll(6, 7);
        Kit.due("it does not turn", 400, kit.turn(5, ""));

        Kit other = Kit.world();
        other.start(1, 3, 5);
        other.roll(4, 5);
        other.turn(3, "");
        other.tick(100000);
        Kit.due("one that had TURNED, late", 200, other.revoke("token=" + Kit.handle(3) + "&client_id=x&grant_type=&scope=z"));
        Kit.due("the FAMILY is TAKEN BACK", 1, other.family(0, 0));
    }

    private static void accessTokens() {
        Kit kit = Kit.world();
        kit.start(1, 3, 5);
        kit.roll(4, 5, 6, 7);
        kit.turn(3, "");
        Kit.due("an ACCESS token", 200, kit.revoke("client_id=x&token=" + Kit.handle(2)));
        kit.answered("an ACCESS token", 200, 0, 0);
        Kit.due("it is not good", 0, kit.check(Kit.handle(2), 0));
        kit.answered("it is not good", 401, 9, 0);
        Kit.due("the other one is", 5, kit.check(Kit.handle(4), 0));
        Kit.due("ACCESS tokens that are good", 1, kit.family(0, 4));
        Kit.due("the FAMILY is well", 0, kit.family(0, 0));
        Kit.due("ACCESS tokens", 2, kit.count(7));
        Kit.due("it turns", 200, kit.turn(5, ""));
    }

    private static void nothing() {
        Kit kit = Kit.world();
        kit.start(1, 3, 5);
        kit.authorize("client_id=x");
        String[] none = {"x&token=a", "x&token=" + Kit.handle(1), "x&token=" + Kit.handle(9), "x&token=" + Kit.handle(3) + "A",
            "y&client_secret=s&token=" + Kit.handle(3), "y&client_secret=s&token=" + Kit.handle(2)};
        for (String form : none) {
            Kit.due("revoke() of " + form, 200, kit.revoke("client_id=" + form));
            kit.answered("revoke() of " + form, 200, 0, 0);
        }
        Kit.due("the FAMILY is well", 0, kit.family(0, 0));
        Kit.due("its ACCESS token is good", 5, kit.check(Kit.handle(2), 0));
    }
}
