/** The edges that the sentences of Terms 3 name of token() with a refresh_token, and of its OUT. */
final class EdgesOfTurn {
    private static final String START = "grant_type=refresh_token&client_id=";
    private static final int OWNER = 5;

    static void run() {
        noToken();
        notSuch();
        turned();
        notGood();
        scopes();
        tooFewHandles();
        turns();
        inOrder();
        out();
        outScopes();
        outNumber();
        outOfErrors();
    }

    /** The small world with CLIENT 2, z, PUBLIC, with r, w, a and REFRESH. */
    private static Kit world() {
        Kit kit = Kit.world();
        kit.client("z", null, 7, true);
        kit.redirect(2, "u:v");
        return kit;
    }

    private static void denied(Kit kit, String form, int error, String word) {
        Kit.due("token() of '" + form + "'", 400, kit.token(form));
        kit.refused("token() of '" + form + "'", 400, error, word);
    }

    private static void noToken() {
        Doc.says("refresh_token: no refresh_token: 1.");
        Kit kit = world();
        kit.start(1, 3, OWNER);
        denied(kit, START + "x", 1, "invalid_request");
        denied(kit, START + "x&refresh_token", 1, "invalid_request");
        denied(kit, START + "x&refresh_token=", 1, "invalid_request");
        denied(kit, START + "x&scope=z&token=" + Kit.handle(3), 1, "invalid_request");
        denied(kit, START + "x&refresh_token=+", 7, "invalid_grant");
    }

    private static void notSuch() {
        Doc.says("One that is no REFRESH token's HANDLE, or of a FAMILY of another CLIENT, or of one that is TAKEN BACK: 7.");
        String good = Kit.handle(3);
        String[] none = {"x&refresh_token=a", "x&refresh_token=" + good.substring(0, 21), "x&refresh_token=" + good + "A",
            "x&refresh_token=" + good.substring(1), "x&refresh_token=" + good + "+", "x&refresh_token=" + good.toUpperCase(),
            "x&refresh_token=" + Kit.handle(1), "x&refresh_token=" + Kit.handle(2), "x&refresh_token=" + Kit.handle(4),
            "z&refresh_token=" + good, "y&client_secret=s&refresh_token=" + good};
        for (String form : none) {
            Kit kit = world();
            kit.start(1, 3, OWNER);
            kit.roll(4, 5);
            denied(kit, START + form, 7, "invalid_grant");
            Kit.due("the FAMILY", 0, kit.family(0, 0));
            Kit.due("how often it TURNED", 0, kit.family(0, 5));
            Kit.due("DICE that wait", 2, kit.count(2));
            Kit.due("the right one", 200, kit.turn(3, ""));
        }
        Kit kit = world();
        kit.start(1, 3, OWNER);
        kit.roll(4, 5, 6, 7);
        kit.turn(3, "");
        denied(kit, START + "z&refresh_token=" + good, 7, "invalid_grant");
        Kit.due("another CLIENT takes nothing back", 0, kit.family(0, 0));
        kit.redeem(1);
        denied(kit, START + "x&refresh_token=" + Kit.handle(5), 7, "invalid_grant");
        denied(kit, START + "x&scope=unknown&refresh_token=" + Kit.handle(5), 7, "invalid_grant");
        Kit.due("how often it TURNED", 1, kit.family(0, 5));
    }

    private static void turned() {
        Doc.says("One that has TURNED: the FAMILY is TAKEN BACK: 7.");
        for (int late = 0; late <= 10000; late += 10000) {
            for (int turns = 1; turns <= 3; turns++) {
                for (int again = 0; again < turns; again++) {
                    Kit kit = world();
                    kit.start(1, 3, OWNER);
                    kit.start(21, 3, OWNER);
                    for (int i = 0; i < turns; i++) {
                        kit.roll(4 + 2 * i, 5 + 2 * i);
                        kit.turn(3 + 2 * i, "");
                    }
                    kit.tick(late);
                    denied(kit, START + "x&scope=unknown&refresh_token=" + Kit.handle(3 + 2 * again), 7, "invalid_grant");
                    Kit.due("the FAMILY", 1, kit.family(0, 0));
                    Kit.due("the other FAMILY", 0, kit.family(1, 0));
                    Kit.due("how often it TURNED", turns, kit.family(0, 5));
                    Kit.due("its ACCESS tokens that are good", 0, kit.family(0, 4));
                    kit.roll(14, 15);
                    denied(kit, START + "x&refresh_token=" + Kit.handle(3 + 2 * turns), 7, "invalid_grant");
                    Kit.due("FAMILIES that are TAKEN BACK", 1, kit.count(9));
                }
            }
        }
    }

    private static void notGood() {
        Doc.says("One that is not good any more: 7.");
        for (int late = 9998; late <= 10001; late++) {
            Kit kit = world();
            kit.start(1, 3, OWNER);
            kit.roll(4, 5);
            kit.tick(late);
            boolean good = late < 10000;
            Kit.due("turned at " + late, good ? 200 : 400, kit.turn(3, ""));
            Kit.due("its error", good ? 0 : 7, kit.error());
            Kit.due("the FAMILY", 0, kit.family(0, 0));
            Kit.due("how often it TURNED", good ? 1 : 0, kit.family(0, 5));
            Kit.due("DICE that wait", good ? 0 : 2, kit.count(2));
        }
        Kit kit = world();
        kit.start(1, 3, OWNER);
        kit.tick(10000);
        denied(kit, START + "x&scope=unknown&refresh_token=" + Kit.handle(3), 7, "invalid_grant");
        denied(kit, START + "x&refresh_token=" + Kit.handle(3), 7, "invalid_grant");
        Kit.due("the FAMILY", 0, kit.family(0, 0));
    }

    private static void scopes() {
        Doc.says("A scope with an unknown WORD, or one that the FAMILY has not: 5.");
        String[] no = {"r", "w+r", "r+w", "a", "w+a", "unknown", "w+unknown", "+r+", "W", "ww"};
        for (String scope : no) {
            Kit kit = world();
            kit.start(1, 2, OWNER);
            denied(kit, START + "x&refresh_token=" + Kit.handle(3) + "&scope=" + scope, 5, "invalid_scope");
            Kit.due("how often it TURNED", 0, kit.family(0, 5));
            kit.roll(4, 5);
            Kit.due("the FAMILY's SCOPE", 200, kit.turn(3, "&scope=w"));
        }
    }

    private static void tooFewHandles() {
        Doc.says("Too few HANDLES (two): 11, status 503.");
        for (int dice = 0; dice <= 3; dice++) {
            Kit kit = world();
            kit.start(1, 3, OWNER);
            kit.roll(1, 2, 3);
            for (int d = 0; d < dice; d++) {
                kit.roll(10 + d);
            }
            Kit.due("with " + dice, dice < 2 ? 503 : 200, kit.turn(3, ""));
            if (dice < 2) {
                kit.refused("with " + dice, 503, 11, "temporarily_unavailable");
            }
            Kit.due("DICE that wait", dice < 2 ? 3 + dice : dice - 2, kit.count(2));
            Kit.due("how often it TURNED", dice < 2 ? 0 : 1, kit.family(0, 5));
            Kit.due("ACCESS tokens", dice < 2 ? 1 : 2, kit.count(7));
            Kit.due("REFRESH tokens", dice < 2 ? 1 : 2, kit.count(8));
            kit.roll(20, 21);
            Kit.due("then, with two", 200, kit.turn(dice < 2 ? 3 : 11, ""));
        }
    }

    private static void turns() {
        Doc.says("Else it has TURNED; an ACCESS token with the SCOPES told (the FAMILY's without scope) "
            + "and a REFRESH token, the LIVE one, come: status 200, error 0.");
        String[] told = {"", "&scope=", "&scope=r", "&scope=w", "&scope=r+w", "&scope=w++r", "&scope=+"};
        int[] bits = {3, 3, 1, 2, 3, 3, 0};
        for (int i = 0; i < told.length; i++) {
            Kit kit = world();
            kit.start(1, 3, OWNER);
            kit.roll(4, 5, 6, 7);
            Kit.due("token()" + told[i], 200, kit.turn(3, told[i]));
            Kit.due("status", 200, kit.status());
            Kit.due("error", 0, kit.error());
            Kit.due("how often it TURNED", 1, kit.family(0, 5));
            Kit.due("the FAMILY's SCOPES", 3, kit.family(0, 3));
            Kit.due("ACCESS tokens that are good", 2, kit.family(0, 4));
            for (int k = 0; k < 3; k++) {
                kit.check(Kit.handle(4), k);
                Kit.due("SCOPE " + k + told[i], (bits[i] >> k & 1) == 1 ? 200 : 403, kit.status());
                kit.check(Kit.handle(2), k);
                Kit.due("SCOPE " + k + " of the earlier one", k < 2 ? 200 : 403, kit.status());
            }
            Kit.due("the new one is LIVE, with the FAMILY's SCOPES", 200, kit.turn(5, "&scope=r+w"));
            Kit.due("how often it TURNED", 2, kit.family(0, 5));
        }
    }

    /** All that can be wrong with all else that can be: the error is that of the first, and nothing else happens. */
    private static void inOrder() {
        Doc.says("token() reads a FORM. The first of these that holds, with status 400 where none is told: "
            + "BAD: error 1; no grant_type: 1;");
        String[] kinds = {"none", "unknown", "of another", "TAKEN BACK", "TURNED", "TURNED and late", "late", "good"};
        String[] scopes = {"&scope=unknown", "&scope=a", "&scope=r", ""};
        for (int kind = 0; kind < kinds.length; kind++) {
            for (int scope = 0; scope < scopes.length; scope++) {
                for (int dice = 0; dice <= 2; dice++) {
                    Kit kit = withToken(kind, dice);
                    int handle = kind == 1 ? 9 : 3;
                    String shown = kind == 0 ? "" : "&refresh_token=" + Kit.handle(handle);
                    String form = START + (kind == 2 ? "z" : "x") + shown + scopes[scope];
                    int error = kind == 0 ? 1 : kind < 7 ? 7 : scope < 2 ? 5 : dice < 2 ? 11 : 0;
                    int before = kit.family(0, 5);
                    String what = kinds[kind] + ", " + dice + " DICE, " + form;
                    Kit.due(what, error == 0 ? 200 : error == 11 ? 503 : 400, kit.token(form));
                    Kit.due(what + ": error", error, kit.error());
                    Kit.due(what + ": TAKEN BACK", kind >= 3 && kind <= 5 ? 1 : 0, kit.count(9));
                    Kit.due(what + ": DICE", error == 0 ? 0 : dice, kit.count(2));
                    Kit.due(what + ": TURNED", error == 0 ? 1 : before, kit.family(0, 5));
                }
            }
        }
    }

    private static Kit withToken(int kind, int dice) {
        Kit kit = world();
        kit.start(1, 3, OWNER);
        if (kind == 3) {
            kit.redeem(1);
        }
        if (kind == 4 || kind == 5) {
            kit.roll(4, 5);
            kit.turn(3, "");
        }
        if (kind == 5 || kind == 6) {
            kit.tick(10000);
        }
        for (int d = 0; d < dice; d++) {
            kit.roll(50 + d);
        }
        return kit;
    }

    // ---- OUT ----

    private static final String OUT = "OUT is {\"access_token\":\"..\",\"token_type\":\"Bearer\",\"expires_in\":n,"
        + "\"refresh_token\":\"..\",\"scope\":\"..\"} with the HANDLES (the first one that is taken is the ACCESS token's), "
        + "the LIFE of ACCESS tokens, and the WORDS of the SCOPES by their numbers, a blank between; "
        + "without \"refresh_token\":\"..\", where there is none.";

    private static String told(int access, int life, int refresh, String scope) {
        return "{\"access_token\":\"" + Kit.handle(access) + "\",\"token_type\":\"Bearer\",\"expires_in\":" + life
            + (refresh < 0 ? "" : ",\"refresh_token\":\"" + Kit.handle(refresh) + "\"") + ",\"scope\":\"" + scope + "\"}";
    }

    private static void out() {
        Doc.says(OUT);
        Kit kit = Kit.world();
        kit.start(1, 3, OWNER);
        kit.answered("redeemed", 200, 0, told(2, 600, 3, "r w"));
        kit.roll(4, 5);
        kit.turn(3, "&scope=w");
        kit.answered("turned", 200, 0, told(4, 600, 5, "w"));
        Kit without = Kit.world();
        without.give("y", 5, OWNER, 1);
        without.roll(2, 3);
        without.token("grant_type=authorization_code&client_id=y&client_secret=s&redirect_uri=u:v&code_verifier="
            + Kit.VERIFIER + "&code=" + Kit.handle(1));
        without.answered("without REFRESH", 200, 0, told(2, 600, -1, "r a"));
    }

    private static void outScopes() {
        Doc.says(OUT);
        for (int set = 1; set < 256; set += set < 8 ? 1 : 31) {
            outScopes(set);
        }
        outScopes(128);
        outScopes(129);
        outScopes(255);
    }

    /** The SCOPES' WORDS are of 12 bytes each. */
    private static void outScopes(int set) {
        Kit kit = new Kit();
        StringBuilder words = new StringBuilder();
        for (int k = 0; k < 8; k++) {
            String word = "z!~#&+%=, .'".replace(' ', (char) ('7' - k));
            kit.scope(word);
            words.append((set >> k & 1) == 0 ? "" : (words.length() == 0 ? "" : " ") + word);
        }
        kit.client("x", null, 255, true);
        kit.redirect(0, "u:v");
        kit.start(1, set, OWNER);
        kit.answered("SCOPES " + set, 200, 0, told(2, 600, 3, words.toString()));
    }

    private static void outNumber() {
        Doc.says(OUT);
        int[] lives = {1, 2, 9, 10, 11, 99, 100, 101, 999, 1000, 1001, 9999, 10000, 10001, 99999, 100000, 100001, 123456,
            999999, 1000000, 500000, 102030};
        for (int life : lives) {
            Kit kit = Kit.world();
            kit.lives(1, life, 1);
            kit.start(1, 3, OWNER);
            kit.answered("redeemed, a LIFE of " + life, 200, 0, told(2, life, 3, "r w"));
        }
        Kit kit = Kit.world();
        kit.start(1, 3, OWNER);
        kit.lives(7, 8, 9);
        kit.roll(4, 5);
        kit.turn(3, "");
        kit.answered("turned, a LIFE of 8 from then on", 200, 0, told(4, 8, 5, "r w"));
    }

    private static void outOfErrors() {
        Doc.says("With an error (of revoke(), too) OUT is {\"error\":\"..\"} with its WORD.");
        Kit kit = Kit.world();
        kit.start(1, 3, OWNER);
        kit.token("");
        kit.answered("token()", 400, 1, "{\"error\":\"invalid_request\"}");
        kit.token("grant_type=x");
        kit.answered("token()", 401, 6, "{\"error\":\"invalid_client\"}");
        kit.token("grant_type=x&client_id=x");
        kit.answered("token()", 400, 8, "{\"error\":\"unsupported_grant_type\"}");
        kit.turn(9, "");
        kit.answered("token()", 400, 7, "{\"error\":\"invalid_grant\"}");
        kit.turn(3, "&scope=a");
        kit.answered("token()", 400, 5, "{\"error\":\"invalid_scope\"}");
        kit.turn(3, "");
        kit.answered("token()", 503, 11, "{\"error\":\"temporarily_unavailable\"}");
        kit.revoke("client_id=x");
        kit.answered("revoke()", 400, 1, "{\"error\":\"invalid_request\"}");
        kit.revoke("client_id=y");
        kit.answered("revoke()", 401, 6, "{\"error\":\"invalid_client\"}");
    }
}
