/** Promise 13 (token), of an authorization_code, and who asks. */
public final class RedeemTest {
    private static final String START = "grant_type=authorization_code&client_id=";

    public static void main(String[] args) {
        whoAsks();
        whichErrorIsFirst();
        whatIsMissing();
        verifiers();
        hashes();
        wrongOnes();
        tokens();
        tokensWithoutRefresh();
        redeemedTwice();
        tooFewHandles();
        tooLate();
        Kit.close();
    }

    private static void refused(Kit kit, String form, int status, int error, String word) {
        Kit.due("token() of '" + form + "'", status, kit.token(form));
        kit.refused("token() of '" + form + "'", status, error, word);
    }

    private static void whoAsks() {
        String[] noOne = {"", "&client_id=", "&client_id=z", "&client_id=y", "&client_id=y&client_secret=t",
            "&client_id=y&client_secret=ss", "&client_id=y&client_secret=", "&client_id=x&client_secret=s",
            "&client_secret=s", "&client_id=y&client_secret=S"};
        for (String who : noOne) {
            refused(Kit.world(), "grant_type=x" + who, 401, 6, "invalid_client");
        }
        String[] some = {"&client_id=x", "&client_id=x&client_secret=", "&client_id=y&client_secret=s"};
        for (String who : some) {
            refused(Kit.world(), "grant_type=x" + who, 400, 8, "unsupported_grant_type");
        }
    }

    private static void whichErrorIsFirst() {
        Kit kit = Kit.world();
        refused(kit, "grant_type=x&client_id=z&a=%", 400, 1, "invalid_request");
        refused(kit, "client_id=z", 400, 1, "invalid_request");
        refused(kit, "grant_type=authorization_code&client_id=z", 401, 6, "invalid_client");
        refused(kit, "grant_type=Authorization_code&client_id=x", 400, 8, "unsupported_grant_type");
        refused(kit, "grant_type=authorization_code+&client_id=x", 400, 8, "unsupported_grant_type");
        refused(kit, START + "x", 400, 1, "invalid_request");
        Kit.due("the TAPE behind it", 0, kit.count(11));
    }

    private static void whatIsMissing() {
        Kit kit = Kit.world();
        kit.give("x", 1, 1, 1);
        kit.roll(2, 3);
        String code = "&code=" + Kit.handle(1);
        String redirect = "&redirect_uri=u:v";
        String verifier = "&code_verifier=" + Kit.VERIFIER;
        Kit.due("no code", 400, kit.token(START + "x" + redirect + verifier));
        Kit.due("its error", 1, kit.error());
        Kit.due("an empty code", 400, kit.token(START + "x&code=" + redirect + verifier));
        Kit.due("its error", 1, kit.error());
        Kit.due("no redirect_uri", 400, kit.token(START + "x" + code + verifier));
        Kit.due("its error", 1, kit.error());
        Kit.due("no code_verifier", 400, kit.token(START + "x" + code + redirect));
        Kit.due("its error", 1, kit.error());
        Kit.due("a code that is none, no redirect_uri", 400, kit.token(START + "x&code=a" + verifier));
        Kit.due("its error", 1, kit.error());
        Kit.due("the CODE stays", 0, kit.code(0, 0));
        Kit.due("all of them", 200, kit.token(START + "x" + code + redirect + verifier + "&scope=zzz&state=1"));
    }

    private static void verifiers() {
        String[] none = {"a", "a".repeat(42), "a".repeat(129), "a".repeat(42) + "+", "a".repeat(42) + "=",
            "%2F" + "a".repeat(42), "a".repeat(42) + "%2F", "a".repeat(42) + "%00", "a".repeat(60) + "!", "a".repeat(42) + "%e9"};
        for (String verifier : none) {
            Kit kit = Kit.world();
            kit.give("x", 1, 1, 1);
            kit.roll(2, 3);
            kit.token(START + "x&redirect_uri=u:v&code=" + Kit.handle(1) + "&code_verifier=" + verifier);
            kit.answered("a verifier of '" + verifier + "'", 400, 1, 27);
        }
    }

    private static void hashes() {
        String[] verifiers = {"a".repeat(43), "~".repeat(55), "b".repeat(56), "c".repeat(57), "d".repeat(63),
            "e".repeat(64), "f".repeat(65), "-._~AZaz09".repeat(12), "g".repeat(119), "h".repeat(120), "i".repeat(127),
            "j".repeat(128)};
        for (String verifier : verifiers) {
            Kit kit = Kit.world();
            kit.authorize("client_id=x&response_type=code&code_challenge_method=S256&code_challenge="
                + Kit.challenge(verifier));
            kit.roll(1, 2, 3);
            kit.consent(0, 1, 1, true);
            String start = START + "x&redirect_uri=u:v&code=" + Kit.handle(1) + "&code_verifier=";
            kit.token(start + verifier.substring(1) + "z");
            kit.refused("another than '" + verifier + "'", 400, 7, "invalid_grant");
            Kit.due("the verifier '" + verifier + "'", 200, kit.token(start + verifier));
        }
    }

    private static void wrongOnes() {
        Kit kit = Kit.world();
        kit.redirect(0, "q");
        kit.client("z", null, 7, true);
        kit.redirect(2, "u:v");
        kit.authorize("client_id=x&redirect_uri=u:v&response_type=code" + Kit.S256);
        kit.roll(1, 2, 3);
        kit.consent(0, 1, 1, true);
        String code = "&code=" + Kit.handle(1);
        String verifier = "&code_verifier=" + Kit.VERIFIER;
        String[] wrong = {
            "x&redirect_uri=u:v&code=a" + verifier,
            "x&redirect_uri=u:v&code=" + Kit.handle(1) + "A" + verifier,
            "x&redirect_uri=u:v&code=" + Kit.handle(1).substring(0, 21) + verifier,
            "x&redirect_uri=u:v&code=" + Kit.handle(1).substring(0, 21) + "R" + verifier,
            "x&redirect_uri=u:v&code=" + Kit.handle(2) + verifier,
            "z&redirect_uri=u:v" + code + verifier,
            "x&redirect_uri=q" + code + verifier,
            "x&redirect_uri=u:w" + code + verifier,
            "x&redirect_uri=u:v" + code + "&code_verifier=" + Kit.VERIFIER.toLowerCase(),
            "x&redirect_uri=u:v" + code + "&code_verifier=" + Kit.CHALLENGE
        };
        for (String form : wrong) {
            Kit.due("token() of '" + form + "'", 400, kit.token(START + form));
            kit.answered("token() of '" + form + "'", 400, 7, 25);
            Kit.due("the CODE stays", 0, kit.code(0, 0));
        }
        Kit.due("FAMILIES", 0, kit.count(6));
        Kit.due("DICE that wait", 2, kit.count(2));
        Kit.due("the right one", 200, kit.token(START + "x&redirect_uri=u:v" + code + verifier));
    }

    private static void tokens() {
        Kit kit = Kit.world();
        kit.lives(60, 7, 10000);
        kit.give("x", 3, -77, 1);
        kit.roll(2, 3);
        Kit.due("token()", 200, kit.redeem(1));
        kit.answered("token()", 200, 0, "{\"access_token\":\"" + Kit.handle(2)
            + "\",\"token_type\":\"Bearer\",\"expires_in\":7,\"refresh_token\":\"" + Kit.handle(3) + "\",\"scope\":\"r w\"}");
        Kit.due("the TAPE behind it", 0, kit.count(11));
        Kit.due("the CODE was redeemed", 1, kit.code(0, 0));
        Kit.due("its FAMILY", 0, kit.code(0, 4));
        Kit.due("FAMILIES", 1, kit.count(6));
        Kit.due("ACCESS tokens", 1, kit.count(7));
        Kit.due("REFRESH tokens", 1, kit.count(8));
        Kit.due("its CLIENT", 0, kit.family(0, 1));
        Kit.due("its owner", -77, kit.family(0, 2));
        Kit.due("its SCOPES", 3, kit.family(0, 3));
        Kit.due("how often it TURNED", 0, kit.family(0, 5));
        Kit.due("the owner of the ACCESS token", -77, kit.check(Kit.handle(2), 1));
    }

    private static void tokensWithoutRefresh() {
        Kit kit = Kit.world();
        kit.lives(60, 1000000, 1);
        kit.give("y", 4, 8, 1);
        kit.roll(2);
        String form = START + "y&client_secret=s&redirect_uri=u:v&code_verifier=" + Kit.VERIFIER + "&code=" + Kit.handle(1);
        Kit.due("token()", 200, kit.token(form));
        kit.answered("token()", 200, 0, "{\"access_token\":\"" + Kit.handle(2)
            + "\",\"token_type\":\"Bearer\",\"expires_in\":1000000,\"scope\":\"a\"}");
        Kit.due("DICE that wait", 0, kit.count(2));
        Kit.due("REFRESH tokens", 0, kit.count(8));
        Kit.due("its CLIENT", 1, kit.family(0, 1));

        int[] lives = {1, 9, 10, 99, 100, 600, 1001, 100000, 999999};
        for (int life : lives) {
            Kit other = Kit.world();
            other.lives(60, life, 1);
            other.give("y", 5, 8, 1);
            other.roll(2);
            other.token(form);
            other.answered("token()", 200, 0, "{\"access_token\":\"" + Kit.handle(2)
                + "\",\"token_type\":\"Bearer\",\"expires_in\":" + life + ",\"scope\":\"r a\"}");
        }
    }

    private static void redeemedTwice() {
        Kit kit = Kit.world();
        kit.start(1, 3, 5);
        kit.start(11, 3, 6);
        Kit.due("another CLIENT shows it", 400,
            kit.token(START + "y&client_secret=s&redirect_uri=u:v&code_verifier=" + Kit.VERIFIER + "&code=" + Kit.handle(1)));
        Kit.due("the FAMILY is well", 0, kit.family(0, 0));
        Kit.due("it is shown again without a redirect_uri", 400,
            kit.token(START + "x&code_verifier=" + Kit.VERIFIER + "&code=" + Kit.handle(1)));
        Kit.due("the FAMILY is well", 0, kit.family(0, 0));
        kit.tick(61);
        Kit.due("it is shown again, late, with a wrong verifier", 400,
            kit.token(START + "x&redirect_uri=q&code_verifier=" + Kit.CHALLENGE + "&code=" + Kit.handle(1)));
        kit.refused("it is shown again", 400, 7, "invalid_grant");
        Kit.due("the FAMILY is TAKEN BACK", 1, kit.family(0, 0));
        Kit.due("the other one is not", 0, kit.family(1, 0));
        Kit.due("FAMILIES that are", 1, kit.count(9));
        Kit.due("its ACCESS token", 0, kit.check(Kit.handle(2), 0));
        Kit.due("the other's ACCESS token", 6, kit.check(Kit.handle(12), 0));
        kit.roll(20, 21);
        Kit.due("its REFRESH token", 400, kit.turn(3, ""));
        Kit.due("once more", 400, kit.redeem(1));
        Kit.due("FAMILIES that are", 1, kit.count(9));
        Kit.due("the CODE was redeemed", 1, kit.code(0, 0));
    }

    private static void tooFewHandles() {
        Kit kit = Kit.world();
        kit.give("x", 3, 5, 1);
        Kit.due("none", 503, kit.redeem(1));
        kit.roll(2);
        Kit.due("one of two", 503, kit.redeem(1));
        kit.refused("one of two", 503, 11, "temporarily_unavailable");
        Kit.due("the CODE stays", 0, kit.code(0, 0));
        Kit.due("DICE that wait", 1, kit.count(2));
        Kit.due("FAMILIES", 0, kit.count(6));
        Kit.due("a wrong redirect goes ahead", 400,
            kit.token(START + "x&redirect_uri=q&code_verifier=" + Kit.VERIFIER + "&code=" + Kit.handle(1)));
        kit.give("y", 1, 5, 3);
        String form = START + "y&client_secret=s&redirect_uri=u:v&code_verifier=" + Kit.VERIFIER + "&code=";
        Kit.due("the CODE took the die that waited", 400, kit.token(form + Kit.handle(3)));
        Kit.due("one of one", 200, kit.token(form + Kit.handle(2)));
        kit.give("y", 1, 5, 4);
        Kit.due("none of one", 503, kit.token(form + Kit.handle(4)));
        Kit.due("ACCESS tokens", 1, kit.count(7));
    }

    private static void tooLate() {
        Kit kit = Kit.world();
        kit.give("x", 3, 5, 1);
        kit.roll(2, 3);
        kit.tick(60);
        Kit.due("at its end", 400, kit.redeem(1));
        kit.refused("at its end", 400, 7, "invalid_grant");
        Kit.due("the CODE stays", 2, kit.code(0, 0));
        Kit.due("it has no FAMILY", Kit.NONE, kit.code(0, 4));
        Kit other = Kit.world();
        other.give("x", 3, 5, 1);
        other.roll(2, 3);
        other.tick(59);
        Kit.due("ahead of its end", 200, other.redeem(1));
        other.tick(1);
        Kit.due("redeemed, and late", 1, other.code(0, 0));
    }
}
