/** The edges that the sentences of Terms 3 name of token(): who asks, and authorization_code. */
final class EdgesOfToken {
    private static final String START = "grant_type=authorization_code&client_id=";
    private static final int OWNER = 5;

    static void run() {
        badOrNoGrant();
        whoAsks();
        grantTypes();
        firstThatHolds();
        verifierLength();
        verifierSigns();
        missing();
        noCode();
        redeemedAgain();
        notGood();
        otherRedirect();
        otherVerifier();
        tooFewHandles();
        redeems();
        redeemedInOrder();
    }

    private static void denied(Kit kit, String form, int status, int error, String word) {
        Kit.due("token() of '" + form + "'", status, kit.token(form));
        kit.refused("token() of '" + form + "'", status, error, word);
    }

    private static void badOrNoGrant() {
        Doc.says("token() reads a FORM. The first of these that holds, with status 400 where none is told: "
            + "BAD: error 1; no grant_type: 1;");
        String[] forms = {"grant_type=refresh_token&client_id=x&refresh_token=%", "grant_type=x&grant_type=x&client_id=x",
            "grant_type=x" + "&a".repeat(20), "grant_type=x&client_id=x& ", "", "client_id=x", "grant_type=&client_id=x",
            "grant_type&client_id=x", "grant_typ=x&client_id=x", "client_id=z", "client_id=y&client_secret=no"};
        for (String form : forms) {
            denied(Kit.world(), form, 400, 1, "invalid_request");
        }
        denied(Kit.world(), "grant_type=x" + "&a".repeat(19), 401, 6, "invalid_client");
    }

    private static void whoAsks() {
        Doc.says("then who asks: no client_id, none that is a CLIENT's; "
            + "of a CONFIDENTIAL one a client_secret that is not its SECRET, or none; "
            + "of a PUBLIC one a client_secret: 6, status 401;");
        String[] noOnes = {"", "&client_id=", "&client_id=z", "&client_id=X", "&client_id=xx", "&client_secret=s",
            "&client_id=y", "&client_id=y&client_secret=", "&client_id=y&client_secret=S", "&client_id=y&client_secret=ss",
            "&client_id=y&client_secret=t", "&client_id=y&client_secret=s+", "&client_id=y&client_secret=%00",
            "&client_id=x&client_secret=s", "&client_id=x&client_secret=x", "&client_id=x&client_secret=+"};
        String[] types = {"x", "authorization_code", "refresh_token"};
        for (String who : noOnes) {
            for (String type : types) {
                denied(Kit.world(), "grant_type=" + type + who, 401, 6, "invalid_client");
            }
        }
        String[] some = {"&client_id=x", "&client_id=x&client_secret", "&client_id=y&client_secret=s", "&client_secret=%73&client_id=%79"};
        for (String who : some) {
            denied(Kit.world(), "grant_type=x" + who, 400, 8, "unsupported_grant_type");
        }
    }

    private static void grantTypes() {
        Doc.says("a grant_type that is neither authorization_code nor refresh_token: 8.");
        String[] others = {"x", "authorization_cod", "authorization_codes", "Authorization_code", "authorization_code+",
            "+authorization_code", "refresh_toke", "refresh_tokens", "REFRESH_TOKEN", "refresh_token%00", "password", "code"};
        for (String other : others) {
            denied(Kit.world(), "client_id=x&grant_type=" + other, 400, 8, "unsupported_grant_type");
        }
        denied(Kit.world(), "client_id=x&grant_type=authorization_code", 400, 1, "invalid_request");
        denied(Kit.world(), "client_id=x&grant_type=refresh_token", 400, 1, "invalid_request");
    }

    private static void firstThatHolds() {
        Doc.says("token() reads a FORM. The first of these that holds, with status 400 where none is told: "
            + "BAD: error 1; no grant_type: 1;");
        String[] bads = {"&a=%", ""};
        String[] types = {"", "&grant_type=x", "&grant_type=authorization_code", "&grant_type=refresh_token"};
        String[] whos = {"", "&client_id=z", "&client_id=y", "&client_id=x&client_secret=s", "&client_id=x"};
        for (int bad = 0; bad < 2; bad++) {
            for (int type = 0; type < 4; type++) {
                for (int who = 0; who < 5; who++) {
                    String form = "b" + whos[who] + types[type] + bads[bad];
                    if (bad == 0 || type == 0 || who == 4 && type > 1) {
                        denied(Kit.world(), form, 400, 1, "invalid_request");
                    } else if (who < 4) {
                        denied(Kit.world(), form, 401, 6, "invalid_client");
                    } else {
                        denied(Kit.world(), form, 400, 8, "unsupported_grant_type");
                    }
                }
            }
        }
    }

    /** A CODE of the verifier is redeemed by it; one that is no verifier is error 1. */
    private static void verifier(String verifier, String shown, boolean good) {
        Kit kit = Kit.world();
        kit.authorize("client_id=x&response_type=code&code_challenge_method=S256&code_challenge=" + Kit.challenge(verifier));
        kit.roll(1, 2, 3);
        kit.consent(0, OWNER, 1, true);
        String form = START + "x&redirect_uri=u:v&code=" + Kit.handle(1) + "&code_verifier=" + shown;
        Kit.due("token() with the verifier '" + shown + "'", good ? 200 : 400, kit.token(form));
        Kit.due("its error", good ? 0 : 1, kit.error());
        Kit.due("the CODE", good ? 1 : 0, kit.code(0, 0));
    }

    private static void verifierLength() {
        Doc.says("authorization_code: no code, no redirect_uri, no code_verifier, "
            + "or one that has not 43 to 128 of letters, digits and - . _ ~: 1.");
        for (int size = 0; size <= 200; size++) {
            String verifier = "Verifier-._~0123456789".repeat(10).substring(0, size);
            verifier(verifier, verifier, size >= 43 && size <= 128);
        }
    }

    private static void verifierSigns() {
        Doc.says("authorization_code: no code, no redirect_uri, no code_verifier, "
            + "or one that has not 43 to 128 of letters, digits and - . _ ~: 1.");
        String rest = "v".repeat(42);
        for (int b = 0; b < 256; b++) {
            String sign = EdgesOfForms.sign(b);
            boolean good = sign.matches("[A-Za-z0-9._~-]");
            String hex = String.format("%%%02X", b);
            verifier(sign + rest, hex + rest, good);
            verifier(rest + sign, rest + hex, good);
            verifier(rest + sign + rest, rest + hex + rest, good);
        }
    }

    private static void missing() {
        Doc.says("authorization_code: no code, no redirect_uri, no code_verifier, "
            + "or one that has not 43 to 128 of letters, digits and - . _ ~: 1.");
        String code = "&code=" + Kit.handle(1);
        String uri = "&redirect_uri=u:v";
        String verifier = "&code_verifier=" + Kit.VERIFIER;
        String[] forms = {uri + verifier, code + verifier, code + uri, code, uri, verifier, "", "&code=" + uri + verifier,
            code + "&redirect_uri=" + verifier, code + uri + "&code_verifier="};
        for (String form : forms) {
            Kit kit = Kit.world();
            kit.give("x", 3, OWNER, 1);
            kit.roll(2, 3);
            denied(kit, START + "x" + form, 400, 1, "invalid_request");
            Kit.due("the CODE", 0, kit.code(0, 0));
            Kit.due("with all of them", 200, kit.token(START + "x" + code + uri + verifier));
        }
    }

    private static String form(String id, String code) {
        return START + id + "&redirect_uri=u:v&code_verifier=" + Kit.VERIFIER + "&code=" + code;
    }

    private static void noCode() {
        Doc.says("A code that is no CODE's HANDLE, or of a CODE of another CLIENT: 7.");
        String good = Kit.handle(1);
        String[] others = {"a", good.substring(0, 21), good.substring(1), good + "A", good + "+", "+" + good, good + "%3D",
            good.substring(0, 21) + "R", "B" + good.substring(1), good.toLowerCase(), Kit.handle(0), Kit.handle(2), Kit.handle(9)};
        for (String other : others) {
            Kit kit = Kit.world();
            kit.give("x", 3, OWNER, 1);
            kit.roll(2, 3);
            denied(kit, form("x", other), 400, 7, "invalid_grant");
            Kit.due("the CODE", 0, kit.code(0, 0));
            Kit.due("FAMILIES", 0, kit.count(6));
            Kit.due("the right one", 200, kit.token(form("x", good)));
            denied(kit, form("x", Kit.handle(2)), 400, 7, "invalid_grant");
            denied(kit, form("x", Kit.handle(3)), 400, 7, "invalid_grant");
            Kit.due("the FAMILY", 0, kit.family(0, 0));
        }
        Kit kit = Kit.world();
        kit.give("x", 3, OWNER, 1);
        kit.roll(2, 3);
        denied(kit, form("y&client_secret=s", good), 400, 7, "invalid_grant");
        Kit.due("the CODE", 0, kit.code(0, 0));
        Kit.due("its own CLIENT", 200, kit.token(form("x", good)));
        denied(kit, form("y&client_secret=s", good), 400, 7, "invalid_grant");
        Kit.due("another CLIENT takes nothing back", 0, kit.family(0, 0));
    }

    private static void redeemedAgain() {
        Doc.says("One that was redeemed: its FAMILY is TAKEN BACK: 7.");
        String[] again = {form("x", Kit.handle(1)),
            START + "x&redirect_uri=no&code_verifier=" + Kit.VERIFIER + "&code=" + Kit.handle(1),
            START + "x&redirect_uri=u:v&code_verifier=" + "n".repeat(43) + "&code=" + Kit.handle(1)};
        for (String form : again) {
            for (int late = 0; late <= 60; late += 60) {
                Kit kit = Kit.world();
                kit.start(1, 3, OWNER);
                kit.start(11, 3, OWNER);
                kit.tick(late);
                denied(kit, form, 400, 7, "invalid_grant");
                Kit.due("its FAMILY", 1, kit.family(0, 0));
                Kit.due("the other FAMILY", 0, kit.family(1, 0));
                Kit.due("FAMILIES that are TAKEN BACK", 1, kit.count(9));
                Kit.due("its ACCESS tokens", 0, kit.family(0, 4));
                Kit.due("the other's ACCESS tokens", 1, kit.family(1, 4));
                Kit.due("the CODE", 1, kit.code(0, 0));
                denied(kit, form, 400, 7, "invalid_grant");
                Kit.due("FAMILIES that are TAKEN BACK", 1, kit.count(9));
            }
        }
        Kit kit = Kit.world();
        kit.start(1, 3, OWNER);
        denied(kit, START + "x&code_verifier=" + Kit.VERIFIER + "&code=" + Kit.handle(1), 400, 1, "invalid_request");
        Kit.due("without a redirect_uri nothing is TAKEN BACK", 0, kit.family(0, 0));
    }

    private static final String STAYS = "One that is not good any more; another redirect_uri than its REDIRECT; "
        + "a code_verifier whose SHA-256 (FIPS 180-4) in base64url is not its CHALLENGE: 7 (the CODE stays as it is).";

    private static void notGood() {
        Doc.says(STAYS);
        for (int late = 58; late <= 61; late++) {
            Kit kit = Kit.world();
            kit.give("x", 3, OWNER, 1);
            kit.roll(2, 3);
            kit.tick(late);
            boolean good = late < 60;
            Kit.due("redeemed at " + late, good ? 200 : 400, kit.redeem(1));
            Kit.due("its error", good ? 0 : 7, kit.error());
            Kit.due("the CODE", good ? 1 : 2, kit.code(0, 0));
            Kit.due("its FAMILY", good ? 0 : Kit.NONE, kit.code(0, 4));
            Kit.due("DICE that wait", good ? 0 : 2, kit.count(2));
        }
    }

    private static void otherRedirect() {
        Doc.says(STAYS);
        String[] others = {"u", "u:", "u:vv", "u:V", "u:v+", "u:w", "q", "%00"};
        for (String other : others) {
            Kit kit = Kit.world();
            kit.give("x", 3, OWNER, 1);
            kit.redirect(0, "q");
            kit.roll(2, 3);
            denied(kit, START + "x&redirect_uri=" + other + "&code_verifier=" + Kit.VERIFIER + "&code=" + Kit.handle(1),
                400, 7, "invalid_grant");
            Kit.due("the CODE", 0, kit.code(0, 0));
            Kit.due("DICE that wait", 2, kit.count(2));
            Kit.due("its REDIRECT", 200, kit.redeem(1));
        }
    }

    private static void otherVerifier() {
        Doc.says(STAYS);
        for (int size = 43; size <= 128; size++) {
            String verifier = "v".repeat(size);
            Kit kit = Kit.world();
            kit.authorize("client_id=x&response_type=code&code_challenge_method=S256&code_challenge=" + Kit.challenge(verifier));
            kit.roll(1, 2, 3);
            kit.consent(0, OWNER, 1, true);
            String start = START + "x&redirect_uri=u:v&code=" + Kit.handle(1) + "&code_verifier=";
            String other = size == 128 ? verifier.substring(1) : verifier + "v";
            denied(kit, start + verifier.substring(1) + "w", 400, 7, "invalid_grant");
            denied(kit, start + "w" + verifier.substring(1), 400, 7, "invalid_grant");
            denied(kit, start + other, 400, 7, "invalid_grant");
            Kit.due("the CODE", 0, kit.code(0, 0));
            Kit.due("its verifier of " + size, 200, kit.token(start + verifier));
        }
        // The last sign of 43 has two bits that no SHA-256 sets: such a CHALLENGE has no verifier.
        for (String last : new String[] {"N", "O", "P"}) {
            Kit kit = Kit.world();
            Kit.due("a CHALLENGE", 0, kit.authorize("client_id=x&response_type=code&code_challenge_method=S256&code_challenge="
                + Kit.CHALLENGE.substring(0, 42) + last));
            kit.roll(1, 2, 3);
            kit.consent(0, OWNER, 1, true);
            denied(kit, form("x", Kit.handle(1)), 400, 7, "invalid_grant");
        }
        Kit kit = Kit.world();
        kit.give("x", 3, OWNER, 1);
        kit.roll(2, 3);
        denied(kit, START + "x&redirect_uri=u:v&code=" + Kit.handle(1) + "&code_verifier=" + Kit.CHALLENGE, 400, 7, "invalid_grant");
    }

    private static void tooFewHandles() {
        Doc.says("Too few HANDLES (one, or two of a CLIENT that may REFRESH): 11, status 503.");
        for (int dice = 0; dice <= 3; dice++) {
            Kit kit = Kit.world();
            kit.give("x", 3, OWNER, 1);
            kit.give("y", 3, OWNER, 2);
            for (int d = 0; d < dice; d++) {
                kit.roll(10 + d);
            }
            Kit.due("x with " + dice, dice < 2 ? 503 : 200, kit.redeem(1));
            if (dice < 2) {
                kit.refused("x with " + dice, 503, 11, "temporarily_unavailable");
            }
            Kit.due("the CODE", dice < 2 ? 0 : 1, kit.code(0, 0));
            Kit.due("DICE that wait", dice < 2 ? dice : dice - 2, kit.count(2));
            Kit.due("FAMILIES", dice < 2 ? 0 : 1, kit.count(6));
            int left = kit.count(2);
            Kit.due("y with " + left, left < 1 ? 503 : 200, kit.token(form("y&client_secret=s", Kit.handle(2))));
            Kit.due("DICE that wait", Math.max(left - 1, 0), kit.count(2));
            Kit.due("y's CODE", left < 1 ? 0 : 1, kit.code(1, 0));
        }
    }

    private static void redeems() {
        Doc.says("Else the CODE is redeemed; a FAMILY comes, with the CODE's CLIENT, owner, SCOPES; "
            + "an ACCESS token with these SCOPES, and, if the CLIENT may REFRESH, a REFRESH token, the LIVE one: "
            + "status 200, error 0.");
        for (int set = 1; set <= 3; set++) {
            Kit kit = Kit.world();
            kit.give("y", 4, 1, 20);
            kit.roll(21);
            kit.token(form("y&client_secret=s", Kit.handle(20)));
            kit.give("x", set, -1, 1);
            kit.roll(2, 3, 4, 5);
            Kit.due("token()", 200, kit.redeem(1));
            Kit.due("status", 200, kit.status());
            Kit.due("error", 0, kit.error());
            Kit.due("the CODE", 1, kit.code(1, 0));
            Kit.due("its FAMILY", 1, kit.code(1, 4));
            int[] want = {0, 0, -1, set, 1, 0};
            for (int what = 0; what < 6; what++) {
                Kit.due("family(1, " + what + ")", want[what], kit.family(1, what));
            }
            Kit.due("ACCESS tokens", 2, kit.count(7));
            Kit.due("REFRESH tokens", 1, kit.count(8));
            for (int k = 0; k < 3; k++) {
                Kit.due("SCOPE " + k, (set >> k & 1) == 1 ? 200 : 403, checked(kit, 2, k));
            }
            Kit.due("the REFRESH token is the LIVE one", 200, kit.turn(3, ""));
        }
    }

    private static int checked(Kit kit, int d, int scope) {
        kit.check(Kit.handle(d), scope);
        return kit.status();
    }

    /** All that can be wrong with all else that can be: the error is that of the first, and nothing else happens. */
    private static void redeemedInOrder() {
        Doc.says("token() reads a FORM. The first of these that holds, with status 400 where none is told: "
            + "BAD: error 1; no grant_type: 1;");
        String[] uris = {"", "&redirect_uri=q", "&redirect_uri=u:v"};
        String[] verifiers = {"", "&code_verifier=" + "v".repeat(42), "&code_verifier=" + "v".repeat(43),
            "&code_verifier=" + Kit.VERIFIER};
        String[] codes = {"none", "unknown", "of another", "redeemed", "late", "good"};
        for (int code = 0; code < codes.length; code++) {
            for (int uri = 0; uri < uris.length; uri++) {
                for (int verifier = 0; verifier < verifiers.length; verifier++) {
                    for (int dice = 0; dice <= 2; dice++) {
                        Kit kit = withCode(code, dice);
                        String shown = code == 0 ? "" : "&code=" + Kit.handle(code == 1 ? 9 : 1);
                        String form = START + "x" + shown + uris[uri] + verifiers[verifier];
                        int error = 0;
                        if (code == 0 || uri == 0 || verifier < 2) {
                            error = 1;
                        } else if (code < 5 || uri == 1 || verifier == 2) {
                            error = 7;
                        } else if (dice < 2) {
                            error = 11;
                        }
                        int status = error == 0 ? 200 : error == 11 ? 503 : 400;
                        String what = codes[code] + ", " + dice + " DICE, " + form;
                        Kit.due(what, status, kit.token(form));
                        Kit.due(what + ": error", error, kit.error());
                        Kit.due(what + ": TAKEN BACK", code == 3 && error == 7 ? 1 : 0, kit.count(9));
                        Kit.due(what + ": DICE", error == 0 ? 0 : dice, kit.count(2));
                        Kit.due(what + ": FAMILIES", error == 0 || code == 3 ? 1 : 0, kit.count(6));
                        Kit.due(what + ": the CODE", error == 0 || code == 3 ? 1 : code == 4 ? 2 : 0, kit.code(0, 0));
                    }
                }
            }
        }
    }

    private static Kit withCode(int kind, int dice) {
        Kit kit = Kit.world();
        kit.give(kind == 2 ? "y" : "x", 1, OWNER, 1);
        if (kind == 3) {
            kit.roll(2, 3);
            kit.redeem(1);
        }
        if (kind == 4) {
            kit.tick(60);
        }
        for (int d = 0; d < dice; d++) {
            kit.roll(50 + d);
        }
        return kit;
    }
}
