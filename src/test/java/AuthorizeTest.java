/** Promise 11 (authorize), and its LOCATION. */
public final class AuthorizeTest {
    private static final String GOOD = "client_id=x&response_type=code" + Kit.S256;

    public static void main(String[] args) {
        refusals();
        whichRedirect();
        errors();
        theFirstErrorThatHolds();
        challenges();
        scopes();
        locations();
        requests();
        Kit.close();
    }

    private static void refused(Kit kit, String form, int error) {
        Kit.due("authorize() of '" + form + "'", Kit.NONE, kit.authorize(form));
        kit.answered("authorize() of '" + form + "'", 400, error, 0);
        Kit.due("the TAPE behind it", 0, kit.count(11));
        Kit.due("REQUESTS", 0, kit.count(3));
    }

    private static void sent(Kit kit, String form, int error, String out) {
        Kit.due("authorize() of '" + form + "'", Kit.NONE, kit.authorize(form));
        kit.answered("authorize() of '" + form + "'", 302, error, out);
        Kit.due("the TAPE behind it", 0, kit.count(11));
    }

    private static void refusals() {
        Kit kit = Kit.world();
        kit.authorize("client_id=x");
        refused(kit, "", 6);
        refused(kit, "client_id=", 6);
        refused(kit, "client_id", 6);
        refused(kit, "client_id=z", 6);
        refused(kit, "client_id=X", 6);
        refused(kit, "client_id=xx", 6);
        refused(kit, "client_id=x+", 6);
        refused(kit, "client_id=z&redirect_uri=no", 6);
        refused(kit, "client_id=z&client_id=z", 1);
        refused(kit, GOOD + "&redirect_uri=u:w", 1);
        refused(kit, GOOD + "&redirect_uri=u:vv", 1);
        refused(kit, GOOD + "&redirect_uri=u:", 1);
        refused(kit, GOOD + "&a=%", 1);
        refused(kit, GOOD + "&state=1&state=1", 1);
    }

    private static void whichRedirect() {
        Kit kit = new Kit();
        kit.client("c", null, 0, false);
        refused(kit, "client_id=c", 1);
        refused(kit, "client_id=c&redirect_uri=a", 1);
        kit.redirect(0, "a");
        sent(kit, "client_id=c", 1, "a?error=invalid_request");
        sent(kit, "client_id=c&redirect_uri=", 1, "a?error=invalid_request");
        sent(kit, "client_id=c&redirect_uri=%61", 1, "a?error=invalid_request");
        kit.redirect(0, "b");
        refused(kit, "client_id=c", 1);
        refused(kit, "client_id=c&redirect_uri=", 1);
        sent(kit, "client_id=c&redirect_uri=b", 1, "b?error=invalid_request");
        sent(kit, "client_id=c&redirect_uri=a", 1, "a?error=invalid_request");
        kit.redirect(0, "c");
        sent(kit, "client_id=c&redirect_uri=c", 1, "c?error=invalid_request");
        kit.client("d", null, 0, false);
        kit.redirect(1, "e");
        kit.redirect(1, "e");
        refused(kit, "client_id=d", 1);
        refused(kit, "client_id=d&redirect_uri=a", 1);
        sent(kit, "client_id=d&redirect_uri=e", 1, "e?error=invalid_request");
    }

    private static void errors() {
        Kit kit = Kit.world();
        String one = "u:v?error=invalid_request";
        sent(kit, "client_id=x", 1, one);
        sent(kit, "client_id=x&response_type=", 1, one);
        sent(kit, "client_id=x&response_type=Code", 4, "u:v?error=unsupported_response_type");
        sent(kit, "client_id=x&response_type=code+", 4, "u:v?error=unsupported_response_type");
        sent(kit, "client_id=x&response_type=code", 1, one);
        sent(kit, GOOD + "&scope=z", 5, "u:v?error=invalid_scope");
        Kit.due("REQUESTS", 0, kit.count(3));
    }

    private static void theFirstErrorThatHolds() {
        Kit kit = Kit.world();
        kit.authorize("client_id=x&response_type=no&scope=z&code_challenge=1");
        Kit.due("response_type goes ahead", 4, kit.error());
        kit.authorize("client_id=x&scope=z" + Kit.S256);
        Kit.due("no response_type goes ahead", 1, kit.error());
        kit.authorize("client_id=x&response_type=code&scope=z&code_challenge=1&code_challenge_method=S256");
        Kit.due("the challenge goes ahead of scope", 1, kit.error());
        kit.authorize("client_id=x&response_type=code&scope=z&code_challenge=" + Kit.CHALLENGE);
        Kit.due("the method goes ahead of scope", 1, kit.error());
    }

    private static void challenges() {
        Kit kit = Kit.world();
        String start = "client_id=x&response_type=code&code_challenge_method=S256&code_challenge=";
        String[] none = {"", Kit.CHALLENGE.substring(1), Kit.CHALLENGE + "A", Kit.CHALLENGE.substring(1) + "=",
            Kit.CHALLENGE.substring(1) + ".", "~" + Kit.CHALLENGE.substring(1), Kit.CHALLENGE.substring(1) + "+",
            "%2F" + Kit.CHALLENGE.substring(1), Kit.CHALLENGE.substring(1) + "%2F", Kit.CHALLENGE.substring(1) + "%80"};
        for (String challenge : none) {
            Kit.due("a code_challenge of '" + challenge + "'", Kit.NONE, kit.authorize(start + challenge));
            kit.answered("a code_challenge of '" + challenge + "'", 302, 1, 25);
        }
        Kit.due("letters, digits, - and _", 0, kit.authorize(start + "-_09azAZ" + "B".repeat(35)));
        Kit other = Kit.world();
        String[] methods = {"", "&code_challenge_method", "&code_challenge_method=", "&code_challenge_method=plain",
            "&code_challenge_method=s256", "&code_challenge_method=S256+", "&code_challenge_method=S25"};
        for (String method : methods) {
            Kit.due("'" + method + "'", Kit.NONE,
                other.authorize("client_id=x&response_type=code&code_challenge=" + Kit.CHALLENGE + method));
            other.answered("'" + method + "'", 302, 1, 25);
        }
    }

    private static void scopes() {
        Kit kit = Kit.world();
        kit.client("none", null, 0, false);
        kit.redirect(2, "n");
        Kit.due("a SCOPE that the CLIENT may not ask for", Kit.NONE, kit.ask("x", "&scope=r+a"));
        kit.answered("a SCOPE that the CLIENT may not ask for", 302, 5, 23);
        Kit.due("that another one may", 0, kit.ask("y", "&scope=r+a"));
        Kit.due("no scope, of a CLIENT that may ask for none", Kit.NONE, kit.ask("none", ""));
        kit.answered("no scope, of a CLIENT that may ask for none", 302, 5, "n?error=invalid_scope");
        Kit.due("an empty scope, of it", Kit.NONE, kit.ask("none", "&scope="));
        kit.answered("an empty scope, of it", 302, 5, 21);
        Kit.due("blanks alone, of it", 1, kit.ask("none", "&scope=+"));
        Kit.due("no scope", 2, kit.ask("x", ""));
        kit.roll(1, 2, 3);
        Kit.due("a of r and w", Kit.ILLEGAL, Kit.thrown(() -> kit.consent(2, 1, 4, true)));
        Kit.due("w of r and a", Kit.ILLEGAL, Kit.thrown(() -> kit.consent(0, 1, 2, true)));
        Kit.due("all that the CLIENT may ask for", 0, kit.consent(2, 1, 3, true));
        Kit.due("those told", 1, kit.consent(0, 1, 5, true));
        kit.scope("new");
        Kit.due("a SCOPE that came later", Kit.NONE, kit.ask("y", "&scope=new"));
        Kit.due("its error", 5, kit.error());
    }

    private static void locations() {
        Kit kit = new Kit();
        kit.client("c", null, 0, false);
        kit.redirect(0, "a?");
        kit.redirect(0, "b?c=d%20");
        kit.redirect(0, "e&f");
        sent(kit, "client_id=c&redirect_uri=a?", 1, "a?&error=invalid_request");
        sent(kit, "client_id=c&redirect_uri=b?c=d%2520", 1, "b?c=d%20&error=invalid_request");
        sent(kit, "client_id=c&redirect_uri=e%26f&state=", 1, "e&f?error=invalid_request");
        sent(kit, "client_id=c&redirect_uri=e%26f&state=%00%0a%7F%80%fF+%25", 1,
            "e&f?error=invalid_request&state=%00%0A%7F%80%FF%20%25");
        Kit other = Kit.world();
        sent(other, "client_id=x&state=-._~azAZ09", 1, "u:v?error=invalid_request&state=-._~azAZ09");
        sent(other, "client_id=x&state=/:@[`{,^%26=", 1, "u:v?error=invalid_request&state=%2F%3A%40%5B%60%7B%2C%5E%26%3D");
        sent(other, "client_id=x&response_type=x&state=s", 4, "u:v?error=unsupported_response_type&state=s");
    }

    private static void requests() {
        Kit kit = Kit.world();
        for (int k = 0; k < 40; k++) {
            Kit.due("REQUEST " + k, k, kit.ask("x", ""));
        }
        kit.answered("a REQUEST", 200, 0, 0);
        Kit.due("REQUESTS", 40, kit.count(3));
        Kit.due("open ones", 40, kit.count(4));
    }
}
