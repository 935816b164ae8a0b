import java.nio.charset.StandardCharsets;
import java.util.ArrayList;
import java.util.HashMap;
import java.util.HashSet;
import java.util.LinkedHashMap;
import java.util.List;
import java.util.Map;
import java.util.NoSuchElementException;
import java.util.Set;

/** The document once more, written with the whole Java library and with other means than the class. */
final class Model {
    private static final Set<String> COUNT = Set.of("response_type", "client_id", "redirect_uri", "scope", "state",
        "code_challenge", "code_challenge_method", "grant_type", "code", "code_verifier", "client_secret",
        "refresh_token", "token");
    private static final Map<Integer, String> WORDS = Map.of(1, "invalid_request", 3, "access_denied",
        4, "unsupported_response_type", 5, "invalid_scope", 6, "invalid_client", 7, "invalid_grant",
        8, "unsupported_grant_type", 9, "invalid_token", 10, "insufficient_scope", 11, "temporarily_unavailable");

    static final class Client {
        String id;
        String secret;
        int scopes;
        boolean refresh;
        final List<String> redirects = new ArrayList<>();
    }

    static final class Request {
        int client;
        String redirect;
        int scopes;
        String challenge;
        String state;
        boolean open = true;
    }

    static final class Code {
        String handle;
        Request of;
        int owner;
        int scopes;
        long end;
        int family = -1;
    }

    static final class Family {
        int client;
        int owner;
        int scopes;
        boolean back;
        int turns;
    }

    static final class Token {
        String handle;
        int family;
        int scopes;
        long end;
        boolean spent;
    }

    String tape = "";
    String out = "";
    int status;
    int error;
    int now;
    int[] lives = {60, 600, 10000};
    final List<String> scopes = new ArrayList<>();
    final List<Client> clients = new ArrayList<>();
    final List<Request> requests = new ArrayList<>();
    final List<Code> codes = new ArrayList<>();
    final List<Family> families = new ArrayList<>();
    final List<Token> access = new ArrayList<>();
    final List<Token> refresh = new ArrayList<>();
    final List<String> dice = new ArrayList<>();
    final Set<String> used = new HashSet<>();

    private String useTape() {
        String had = tape;
        tape = "";
        return had;
    }

    int append(String text) {
        if (tape.length() + text.length() > 2000) {
            return -1;
        }
        tape += text;
        return tape.length();
    }

    boolean end(int n) {
        if (n < 0 || n > tape.length()) {
            return false;
        }
        tape = tape.substring(0, n);
        return true;
    }

    int again(int from, int many) {
        if (from < 0 || many < 0 || (long) from + many > out.length()) {
            return -1;
        }
        return append(out.substring(from, from + many));
    }

    int scope() {
        String word = useTape();
        if (!word.matches("[!-~&&[^\"\\\\]]{1,12}") || scopes.contains(word)) {
            throw new IllegalArgumentException();
        }
        if (scopes.size() == 8) {
            throw new UnsupportedOperationException();
        }
        scopes.add(word);
        return scopes.size() - 1;
    }

    int client(boolean confidential, int bits, boolean mayRefresh) {
        String text = useTape();
        if (!text.matches(confidential ? "[!-~]{1,20}\0[!-~]{1,20}" : "[!-~]{1,20}") || bits >>> scopes.size() != 0) {
            throw new IllegalArgumentException();
        }
        Client made = new Client();
        made.id = text.split("\0")[0];
        made.secret = confidential ? text.split("\0")[1] : null;
        made.scopes = bits;
        made.refresh = mayRefresh;
        if (clientOf(made.id) >= 0) {
            throw new IllegalArgumentException();
        }
        if (clients.size() == 8) {
            throw new UnsupportedOperationException();
        }
        clients.add(made);
        return clients.size() - 1;
    }

    private int clientOf(String id) {
        for (int k = 0; k < clients.size(); k++) {
            if (clients.get(k).id.equals(id)) {
                return k;
            }
        }
        return -1;
    }

    int redirect(int client) {
        String text = useTape();
        if (client < 0 || client >= clients.size()) {
            throw new IndexOutOfBoundsException();
        }
        if (!text.matches("[!-~&&[^#]]{1,80}")) {
            throw new IllegalArgumentException();
        }
        List<String> has = clients.get(client).redirects;
        if (has.size() == 3) {
            throw new UnsupportedOperationException();
        }
        has.add(text);
        return has.size();
    }

    void lives(int code, int acc, int ref) {
        for (int life : new int[] {code, acc, ref}) {
            if (life < 1 || life > 1000000) {
                throw new IllegalArgumentException();
            }
        }
        lives = new int[] {code, acc, ref};
    }

    int dice(int a, int b, int c, int d) {
        if (dice.size() == 60) {
            return -1;
        }
        dice.add(Kit.handle(a, b, c, d));
        return dice.size();
    }

    int tick(int n) {
        if (n < 0 || n > 100000) {
            throw new IllegalArgumentException();
        }
        return now += n;
    }

    /** So many HANDLES, or null. */
    private List<String> take(int many) {
        List<String> rest = new ArrayList<>(dice);
        List<String> taken = new ArrayList<>();
        while (taken.size() < many && !rest.isEmpty()) {
            String next = rest.remove(0);
            if (!used.contains(next) && !taken.contains(next)) {
                taken.add(next);
            }
        }
        if (taken.size() < many) {
            return null;
        }
        used.addAll(taken);
        dice.clear();
        dice.addAll(rest);
        return taken;
    }

    // ---- FORMS ----

    /** The VALUES that are there by their NAMES, or null if it is BAD. */
    private Map<String, String> form() {
        String text = useTape();
        Map<String, String> values = new LinkedHashMap<>();
        int pieces = 0;
        for (String piece : text.split("&")) {
            if (piece.isEmpty()) {
                continue;
            }
            if (++pieces > 20 || !piece.matches("([!-~&&[^%]]|%[0-9A-Fa-f]{2})*")) {
                return null;
            }
            String[] parts = piece.split("=", 2);
            String name = decoded(parts[0]);
            String value = parts.length == 2 ? decoded(parts[1]) : "";
            if (COUNT.contains(name) && values.put(name, value) != null) {
                return null;
            }
        }
        values.values().removeIf(String::isEmpty);
        return values;
    }

    private static String decoded(String text) {
        StringBuilder made = new StringBuilder();
        for (int i = 0; i < text.length(); i++) {
            char c = text.charAt(i);
            if (c == '%') {
                made.append((char) Integer.parseInt(text.substring(i + 1, i + 3), 16));
                i += 2;
            } else {
                made.append(c == '+' ? ' ' : c);
            }
        }
        return made.toString();
    }

    private static String escaped(String text) {
        StringBuilder made = new StringBuilder();
        for (byte b : text.getBytes(StandardCharsets.ISO_8859_1)) {
            String sign = String.valueOf((char) (b & 255));
            made.append(sign.matches("[A-Za-z0-9._~-]") ? sign : String.format("%%%02X", b & 255));
        }
        return made.toString();
    }

    /** The bits of a scope's VALUE, or null if it has an unknown WORD. */
    private Integer bits(String value) {
        int bits = 0;
        for (String word : value.split(" ")) {
            if (word.isEmpty()) {
                continue;
            }
            if (!scopes.contains(word)) {
                return null;
            }
            bits |= 1 << scopes.indexOf(word);
        }
        return bits;
    }

    private int set(int newStatus, int newError, String newOut) {
        status = newStatus;
        error = newError;
        out = newOut;
        return newStatus;
    }

    private int fail(int newStatus, int newError) {
        return set(newStatus, newError, "{\"error\":\"" + WORDS.get(newError) + "\"}");
    }

    private static String location(String redirect, String told, String state) {
        return redirect + (redirect.contains("?") ? "&" : "?") + told + (state == null ? "" : "&state=" + escaped(state));
    }

    // ---- the requests ----

    int authorize() {
        Map<String, String> form = form();
        int client = form == null ? -1 : clientOf(form.get("client_id"));
        if (client < 0) {
            set(400, form == null ? 1 : 6, "");
            return -1;
        }
        Client asker = clients.get(client);
        String uri = form.get("redirect_uri");
        if (uri == null ? asker.redirects.size() != 1 : !asker.redirects.contains(uri)) {
            set(400, 1, "");
            return -1;
        }
        String redirect = uri == null ? asker.redirects.get(0) : uri;
        Integer wanted = form.containsKey("scope") ? bits(form.get("scope")) : Integer.valueOf(asker.scopes);
        int fault = fault(form, asker, wanted);
        if (fault != 0) {
            set(302, fault, location(redirect, "error=" + WORDS.get(fault), form.get("state")));
            return -1;
        }
        Request made = new Request();
        made.client = client;
        made.redirect = redirect;
        made.scopes = wanted;
        made.challenge = form.get("code_challenge");
        made.state = form.get("state");
        requests.add(made);
        set(200, 0, "");
        return requests.size() - 1;
    }

    private int fault(Map<String, String> form, Client asker, Integer wanted) {
        String type = form.get("response_type");
        if (type == null) {
            return 1;
        }
        if (!type.equals("code")) {
            return 4;
        }
        if (!form.getOrDefault("code_challenge", "").matches("[A-Za-z0-9_-]{43}")
            || !"S256".equals(form.get("code_challenge_method"))) {
            return 1;
        }
        if (wanted == null || (wanted | asker.scopes) != asker.scopes) {
            return 5;
        }
        if (!form.containsKey("scope") && asker.scopes == 0) {
            return 5;
        }
        return requests.size() == 200 ? 11 : 0;
    }

    int consent(int k, int owner, int bits, boolean yes) {
        if (k < 0 || k >= requests.size() || !requests.get(k).open) {
            throw new NoSuchElementException();
        }
        Request asked = requests.get(k);
        if (!yes) {
            asked.open = false;
            set(302, 3, location(asked.redirect, "error=access_denied", asked.state));
            return -1;
        }
        if (bits == 0 || (bits | asked.scopes) != asked.scopes) {
            throw new IllegalArgumentException();
        }
        List<String> taken = codes.size() == 200 ? null : take(1);
        if (taken == null) {
            throw new IllegalStateException();
        }
        asked.open = false;
        Code made = new Code();
        made.handle = taken.get(0);
        made.of = asked;
        made.owner = owner;
        made.scopes = bits;
        made.end = (long) now + lives[0];
        codes.add(made);
        set(302, 0, location(asked.redirect, "code=" + made.handle, asked.state));
        return codes.size() - 1;
    }

    private int asker(Map<String, String> form) {
        int client = clientOf(form.get("client_id"));
        String secret = client < 0 ? null : clients.get(client).secret;
        String shown = form.get("client_secret");
        return client >= 0 && (secret == null ? shown == null : secret.equals(shown)) ? client : -1;
    }

    int token() {
        Map<String, String> form = form();
        if (form == null || !form.containsKey("grant_type")) {
            return fail(400, 1);
        }
        int client = asker(form);
        if (client < 0) {
            return fail(401, 6);
        }
        switch (form.get("grant_type")) {
            case "authorization_code": return redeem(form, client);
            case "refresh_token": return turn(form, client);
            default: return fail(400, 8);
        }
    }

    private int redeem(Map<String, String> form, int client) {
        String verifier = form.getOrDefault("code_verifier", "");
        if (!form.containsKey("code") || !form.containsKey("redirect_uri") || !verifier.matches("[A-Za-z0-9._~-]{43,128}")) {
            return fail(400, 1);
        }
        Code code = null;
        for (Code each : codes) {
            code = each.handle.equals(form.get("code")) && each.of.client == client ? each : code;
        }
        if (code == null) {
            return fail(400, 7);
        }
        if (code.family >= 0) {
            families.get(code.family).back = true;
            return fail(400, 7);
        }
        if (now >= code.end || !code.of.redirect.equals(form.get("redirect_uri"))
            || !code.of.challenge.equals(Kit.challenge(verifier))) {
            return fail(400, 7);
        }
        Family made = new Family();
        made.client = client;
        made.owner = code.owner;
        made.scopes = code.scopes;
        if (!give(families.size(), code.scopes, clients.get(client).refresh)) {
            return fail(503, 11);
        }
        code.family = families.size();
        families.add(made);
        return status;
    }

    private int turn(Map<String, String> form, int client) {
        if (!form.containsKey("refresh_token")) {
            return fail(400, 1);
        }
        Token shown = tokenOf(refresh, form.get("refresh_token"));
        Family family = shown == null ? null : families.get(shown.family);
        if (family == null || family.client != client || family.back) {
            return fail(400, 7);
        }
        if (shown.spent) {
            family.back = true;
            return fail(400, 7);
        }
        if (now >= shown.end) {
            return fail(400, 7);
        }
        Integer wanted = form.containsKey("scope") ? bits(form.get("scope")) : Integer.valueOf(family.scopes);
        if (wanted == null || (wanted | family.scopes) != family.scopes) {
            return fail(400, 5);
        }
        if (!give(shown.family, wanted, true)) {
            return fail(503, 11);
        }
        shown.spent = true;
        family.turns++;
        return status;
    }

    private boolean give(int family, int bits, boolean both) {
        boolean room = access.size() < 300 && (!both || refresh.size() < 300);
        List<String> taken = room ? take(both ? 2 : 1) : null;
        if (taken == null) {
            return false;
        }
        access.add(token(taken.get(0), family, bits, lives[1]));
        String more = "";
        if (both) {
            refresh.add(token(taken.get(1), family, bits, lives[2]));
            more = "\"refresh_token\":\"" + taken.get(1) + "\",";
        }
        List<String> words = new ArrayList<>();
        for (int k = 0; k < scopes.size(); k++) {
            if ((bits >> k & 1) == 1) {
                words.add(scopes.get(k));
            }
        }
        set(200, 0, "{\"access_token\":\"" + taken.get(0) + "\",\"token_type\":\"Bearer\",\"expires_in\":" + lives[1] + ","
            + more + "\"scope\":\"" + String.join(" ", words) + "\"}");
        return true;
    }

    private Token token(String handle, int family, int bits, int life) {
        Token made = new Token();
        made.handle = handle;
        made.family = family;
        made.scopes = bits;
        made.end = (long) now + life;
        return made;
    }

    private static Token tokenOf(List<Token> tokens, String handle) {
        Map<String, Token> all = new HashMap<>();
        tokens.forEach(each -> all.put(each.handle, each));
        return all.get(handle);
    }

    int revoke() {
        Map<String, String> form = form();
        if (form == null) {
            return fail(400, 1);
        }
        int client = asker(form);
        if (client < 0) {
            return fail(401, 6);
        }
        if (!form.containsKey("token")) {
            return fail(400, 1);
        }
        Token one = tokenOf(refresh, form.get("token"));
        if (one != null && families.get(one.family).client == client) {
            families.get(one.family).back = true;
        }
        Token other = tokenOf(access, form.get("token"));
        if (other != null && families.get(other.family).client == client) {
            other.spent = true;
        }
        return set(200, 0, "");
    }

    private boolean good(Token token) {
        return now < token.end && !token.spent && !families.get(token.family).back;
    }

    int check(int scope) {
        Token shown = tokenOf(access, useTape());
        if (scope < 0 || scope >= scopes.size()) {
            throw new IndexOutOfBoundsException();
        }
        if (shown == null || !good(shown)) {
            set(401, 9, "");
            return 0;
        }
        if ((shown.scopes >> scope & 1) == 0) {
            set(403, 10, "");
            return 0;
        }
        set(200, 0, "");
        return families.get(shown.family).owner;
    }

    // ---- looks ----

    int out(int i) {
        return i < 0 || i >= out.length() ? -1 : out.charAt(i);
    }

    int code(int k, int what) {
        if (k < 0 || k >= codes.size() || what < 0 || what > 4) {
            throw new NoSuchElementException();
        }
        Code code = codes.get(k);
        int standing = code.family >= 0 ? 1 : now < code.end ? 0 : 2;
        return new int[] {standing, code.of.client, code.owner, code.scopes, code.family}[what];
    }

    int family(int k, int what) {
        if (k < 0 || k >= families.size() || what < 0 || what > 5) {
            throw new NoSuchElementException();
        }
        Family family = families.get(k);
        int good = (int) access.stream().filter(each -> each.family == k && good(each)).count();
        return new int[] {family.back ? 1 : 0, family.client, family.owner, family.scopes, good, family.turns}[what];
    }

    int count(int what) {
        if (what < 0 || what > 11) {
            return -1;
        }
        int open = (int) requests.stream().filter(each -> each.open).count();
        int back = (int) families.stream().filter(each -> each.back).count();
        return new int[] {scopes.size(), clients.size(), dice.size(), requests.size(), open, codes.size(), families.size(),
            access.size(), refresh.size(), back, now, tape.length()}[what];
    }
}
