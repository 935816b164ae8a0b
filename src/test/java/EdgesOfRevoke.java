/** The edges that the sentences of Terms 3 name of revoke() and check(), and of the errors' WORDS. */
final class EdgesOfRevoke {
    private static final int OWNER = 5;
    private static final String DONE = "The HANDLE of a REFRESH token of a FAMILY of that CLIENT takes that FAMILY back; "
        + "that of an ACCESS token of one is REVOKED alone; all else is nothing: status 200, error 0, an empty OUT.";

    static void run() {
        errors();
        errorsInOrder();
        refreshTokens();
        accessTokens();
        nothing();
        goodTokens();
        words();
    }

    private static void denied(Kit kit, String form, int status, int error, String word) {
        Kit.due("revoke() of '" + form + "'", status, kit.revoke(form));
        kit.refused("revoke() of '" + form + "'", status, error, word);
    }

    private static void done(Kit kit, String form) {
        kit.token("");
        Kit.due("revoke() of '" + form + "'", 200, kit.revoke(form));
        kit.answered("revoke() of '" + form + "'", 200, 0, 0);
    }

    private static void errors() {
        Doc.says("revoke() reads a FORM: BAD: 1; who asks, as above: 6, status 401; no token: 1.");
        String token = "&token=" + Kit.handle(3);
        String[] bad = {"client_id=x&a=%" + token, "client_id=x" + token + token, "client_id=x" + "&a".repeat(19) + token,
            "client_id=x&a= " + token};
        String[] noOnes = {"", "client_id=", "client_id=z", "client_id=X", "client_id=y", "client_id=y&client_secret=",
            "client_id=y&client_secret=t", "client_id=y&client_secret=ss", "client_id=x&client_secret=s", "client_secret=s"};
        String[] without = {"client_id=x", "client_id=x&token", "client_id=x&token=", "client_id=y&client_secret=s",
            "client_id=x&refresh_token=" + Kit.handle(3), "client_id=x&tokens=" + Kit.handle(3)};
        for (String form : bad) {
            Kit kit = started();
            denied(kit, form, 400, 1, "invalid_request");
            Kit.due("the FAMILY", 0, kit.family(0, 0));
        }
        for (String form : noOnes) {
            Kit kit = started();
            denied(kit, form + token, 401, 6, "invalid_client");
            Kit.due("the FAMILY", 0, kit.family(0, 0));
        }
        for (String form : without) {
            Kit kit = started();
            denied(kit, form, 400, 1, "invalid_request");
            Kit.due("the FAMILY", 0, kit.family(0, 0));
        }
        done(started(), "client_id=x" + "&a".repeat(18) + token);
    }

    private static void errorsInOrder() {
        Doc.says("revoke() reads a FORM: BAD: 1; who asks, as above: 6, status 401; no token: 1.");
        String[] bads = {"&a=%", ""};
        String[] whos = {"", "&client_id=z", "&client_id=y", "&client_id=x&client_secret=s", "&client_id=x",
            "&client_id=y&client_secret=s"};
        String[] tokens = {"", "&token=", "&token=a"};
        for (String bad : bads) {
            for (int who = 0; who < whos.length; who++) {
                for (int token = 0; token < tokens.length; token++) {
                    String form = "b" + tokens[token] + whos[who] + bad;
                    if (!bad.isEmpty() || who >= 4 && token < 2) {
                        denied(started(), form, 400, 1, "invalid_request");
                    } else if (who < 4) {
                        denied(started(), form, 401, 6, "invalid_client");
                    } else {
                        done(started(), form);
                    }
                }
            }
        }
    }

    /** FAMILY 0 of x, of 1 to 3, that TURNED once, of 4 and 5; FAMILY 1 of x, of 11 to 13. */
    private static Kit started() {
        Kit kit = Kit.world();
        kit.start(1, 3, OWNER);
        kit.start(11, 3, OWNER);
        kit.roll(4, 5);
        kit.turn(3, "");
        return kit;
    }

    private static void refreshTokens() {
        Doc.says(DONE);
        for (int handle = 3; handle <= 5; handle += 2) {
            for (int late = 0; late <= 10000; late += 10000) {
                Kit kit = started();
                kit.tick(late);
                done(kit, "client_id=x&token=" + Kit.handle(handle));
                Kit.due("the FAMILY", 1, kit.family(0, 0));
                Kit.due("its ACCESS tokens", 0, kit.family(0, 4));
                Kit.due("the other FAMILY", 0, kit.family(1, 0));
                Kit.due("FAMILIES that are TAKEN BACK", 1, kit.count(9));
                done(kit, "client_id=x&token=" + Kit.handle(handle));
                Kit.due("FAMILIES that are TAKEN BACK", 1, kit.count(9));
                kit.roll(20, 21);
                Kit.due("it does not turn", 400, kit.turn(5, ""));
                Kit.due("its error", 7, kit.error());
                Kit.due("the other one turns, if it is good", late == 0 ? 200 : 400, kit.turn(13, ""));
            }
        }
    }

    private static void accessTokens() {
        Doc.says(DONE);
        for (int handle = 2; handle <= 4; handle += 2) {
            Kit kit = started();
            done(kit, "client_id=x&token=" + Kit.handle(handle));
            Kit.due("it", 0, kit.check(Kit.handle(handle), 0));
            kit.answered("it", 401, 9, 0);
            Kit.due("the other one of the FAMILY", OWNER, kit.check(Kit.handle(6 - handle), 0));
            Kit.due("the other FAMILY's", OWNER, kit.check(Kit.handle(12), 0));
            Kit.due("the FAMILY", 0, kit.family(0, 0));
            Kit.due("ACCESS tokens of it that are good", 1, kit.family(0, 4));
            Kit.due("ACCESS tokens", 3, kit.count(7));
            done(kit, "client_id=x&token=" + Kit.handle(handle));
            Kit.due("ACCESS tokens of it that are good", 1, kit.family(0, 4));
            kit.roll(20, 21);
            Kit.due("the REFRESH token still turns", 200, kit.turn(5, ""));
        }
    }

    private static void nothing() {
        Doc.says(DONE);
        String[] none = {"x&token=a", "x&token=+", "x&token=" + Kit.handle(1), "x&token=" + Kit.handle(9),
            "x&token=" + Kit.handle(5) + "A", "x&token=" + Kit.handle(5).substring(0, 21), "x&token=" + Kit.handle(4) + "+",
            "x&token=" + Kit.handle(5).substring(0, 21) + "R", "y&client_secret=s&token=" + Kit.handle(5),
            "y&client_secret=s&token=" + Kit.handle(3), "y&client_secret=s&token=" + Kit.handle(4),
            "y&client_secret=s&token=" + Kit.handle(1)};
        for (String form : none) {
            Kit kit = started();
            done(kit, "client_id=x&token=none");
            String before = kit.look();
            done(kit, "client_id=" + form);
            Kit.due("nothing is another behind revoke() of " + form, before, kit.look());
            kit.roll(20, 21);
            Kit.due("it turns", 200, kit.turn(5, ""));
        }
    }

    private static void goodTokens() {
        Doc.says("check(): an ACCESS token is good if its LIFE lasts, it is not REVOKED, its FAMILY not TAKEN BACK.");
        for (int late = 599; late <= 600; late++) {
            for (int revoked = 0; revoked < 2; revoked++) {
                for (int back = 0; back < 2; back++) {
                    Kit kit = started();
                    kit.tick(late);
                    if (revoked == 1) {
                        kit.revoke("client_id=x&token=" + Kit.handle(2));
                    }
                    if (back == 1) {
                        kit.revoke("client_id=x&token=" + Kit.handle(5));
                    }
                    boolean good = late < 600 && revoked == 0 && back == 0;
                    Kit.due("at " + late + ", " + revoked + ", " + back, good ? OWNER : 0, kit.check(Kit.handle(2), 0));
                    kit.answered("at " + late + ", " + revoked + ", " + back, good ? 200 : 401, good ? 0 : 9, 0);
                    int goodOnes = late >= 600 || back == 1 ? 0 : 2 - revoked;
                    Kit.due("good ones of the FAMILY", goodOnes, kit.family(0, 4));
                    Kit.due("good ones of the other", late >= 600 ? 0 : 1, kit.family(1, 4));
                }
            }
        }
    }

    private static void words() {
        Doc.says("WORDS of errors: 1 invalid_request 3 access_denied 4 unsupported_response_type 5 invalid_scope "
            + "6 invalid_client 7 invalid_grant 8 unsupported_grant_type 9 invalid_token 10 insufficient_scope "
            + "11 temporarily_unavailable.");
        Kit kit = started();
        kit.authorize("client_id=x");
        kit.answered("1", 302, 1, "u:v?error=invalid_request");
        kit.ask("x", "");
        kit.consent(2, 1, 1, false);
        kit.answered("3", 302, 3, "u:v?error=access_denied");
        kit.authorize("client_id=x&response_type=x");
        kit.answered("4", 302, 4, "u:v?error=unsupported_response_type");
        kit.turn(5, "&scope=a");
        kit.answered("5", 400, 5, "{\"error\":\"invalid_scope\"}");
        kit.revoke("");
        kit.answered("6", 401, 6, "{\"error\":\"invalid_client\"}");
        kit.turn(9, "");
        kit.answered("7", 400, 7, "{\"error\":\"invalid_grant\"}");
        kit.token("client_id=x&grant_type=x");
        kit.answered("8", 400, 8, "{\"error\":\"unsupported_grant_type\"}");
        kit.turn(5, "");
        kit.answered("11", 503, 11, "{\"error\":\"temporarily_unavailable\"}");
        kit.check("a", 0);
        kit.answered("9", 401, 9, "");
        kit.check(Kit.handle(2), 2);
        kit.answered("10", 403, 10, "");
    }
}
