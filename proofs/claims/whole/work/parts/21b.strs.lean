/-! the Strings of both programs (printed by m_strs.py) -/
def sb_response_type : List Int32 := [114, 101, 115, 112, 111, 110, 115, 101, 95, 116, 121, 112, 101]
theorem sb_response_type_b : byt (fun i => sb_response_type.getD i 0) 0 sb_response_type.length := by
  intro j hj
  exact (show ∀ j, j < 13 → b8 (sb_response_type.getD (0 + j) 0) = sb_response_type.getD (0 + j) 0 by decide +kernel) j hj
def sb_client_id : List Int32 := [99, 108, 105, 101, 110, 116, 95, 105, 100]
theorem sb_client_id_b : byt (fun i => sb_client_id.getD i 0) 0 sb_client_id.length := by
  intro j hj
  exact (show ∀ j, j < 9 → b8 (sb_client_id.getD (0 + j) 0) = sb_client_id.getD (0 + j) 0 by decide +kernel) j hj
def sb_redirect_uri : List Int32 := [114, 101, 100, 105, 114, 101, 99, 116, 95, 117, 114, 105]
theorem sb_redirect_uri_b : byt (fun i => sb_redirect_uri.getD i 0) 0 sb_redirect_uri.length := by
  intro j hj
  exact (show ∀ j, j < 12 → b8 (sb_redirect_uri.getD (0 + j) 0) = sb_redirect_uri.getD (0 + j) 0 by decide +kernel) j hj
def sb_scope : List Int32 := [115, 99, 111, 112, 101]
theorem sb_scope_b : byt (fun i => sb_scope.getD i 0) 0 sb_scope.length := by
  intro j hj
  exact (show ∀ j, j < 5 → b8 (sb_scope.getD (0 + j) 0) = sb_scope.getD (0 + j) 0 by decide +kernel) j hj
def sb_state : List Int32 := [115, 116, 97, 116, 101]
theorem sb_state_b : byt (fun i => sb_state.getD i 0) 0 sb_state.length := by
  intro j hj
  exact (show ∀ j, j < 5 → b8 (sb_state.getD (0 + j) 0) = sb_state.getD (0 + j) 0 by decide +kernel) j hj
def sb_code_challenge : List Int32 := [99, 111, 100, 101, 95, 99, 104, 97, 108, 108, 101, 110, 103, 101]
theorem sb_code_challenge_b : byt (fun i => sb_code_challenge.getD i 0) 0 sb_code_challenge.length := by
  intro j hj
  exact (show ∀ j, j < 14 → b8 (sb_code_challenge.getD (0 + j) 0) = sb_code_challenge.getD (0 + j) 0 by decide +kernel) j hj
def sb_code_challenge_method : List Int32 := [99, 111, 100, 101, 95, 99, 104, 97, 108, 108, 101, 110, 103, 101, 95, 109, 101, 116, 104, 111, 100]
theorem sb_code_challenge_method_b : byt (fun i => sb_code_challenge_method.getD i 0) 0 sb_code_challenge_method.length := by
  intro j hj
  exact (show ∀ j, j < 21 → b8 (sb_code_challenge_method.getD (0 + j) 0) = sb_code_challenge_method.getD (0 + j) 0 by decide +kernel) j hj
def sb_grant_type : List Int32 := [103, 114, 97, 110, 116, 95, 116, 121, 112, 101]
theorem sb_grant_type_b : byt (fun i => sb_grant_type.getD i 0) 0 sb_grant_type.length := by
  intro j hj
  exact (show ∀ j, j < 10 → b8 (sb_grant_type.getD (0 + j) 0) = sb_grant_type.getD (0 + j) 0 by decide +kernel) j hj
def sb_code : List Int32 := [99, 111, 100, 101]
theorem sb_code_b : byt (fun i => sb_code.getD i 0) 0 sb_code.length := by
  intro j hj
  exact (show ∀ j, j < 4 → b8 (sb_code.getD (0 + j) 0) = sb_code.getD (0 + j) 0 by decide +kernel) j hj
def sb_code_verifier : List Int32 := [99, 111, 100, 101, 95, 118, 101, 114, 105, 102, 105, 101, 114]
theorem sb_code_verifier_b : byt (fun i => sb_code_verifier.getD i 0) 0 sb_code_verifier.length := by
  intro j hj
  exact (show ∀ j, j < 13 → b8 (sb_code_verifier.getD (0 + j) 0) = sb_code_verifier.getD (0 + j) 0 by decide +kernel) j hj
def sb_client_secret : List Int32 := [99, 108, 105, 101, 110, 116, 95, 115, 101, 99, 114, 101, 116]
theorem sb_client_secret_b : byt (fun i => sb_client_secret.getD i 0) 0 sb_client_secret.length := by
  intro j hj
  exact (show ∀ j, j < 13 → b8 (sb_client_secret.getD (0 + j) 0) = sb_client_secret.getD (0 + j) 0 by decide +kernel) j hj
def sb_refresh_token : List Int32 := [114, 101, 102, 114, 101, 115, 104, 95, 116, 111, 107, 101, 110]
theorem sb_refresh_token_b : byt (fun i => sb_refresh_token.getD i 0) 0 sb_refresh_token.length := by
  intro j hj
  exact (show ∀ j, j < 13 → b8 (sb_refresh_token.getD (0 + j) 0) = sb_refresh_token.getD (0 + j) 0 by decide +kernel) j hj
def sb_token : List Int32 := [116, 111, 107, 101, 110]
theorem sb_token_b : byt (fun i => sb_token.getD i 0) 0 sb_token.length := by
  intro j hj
  exact (show ∀ j, j < 5 → b8 (sb_token.getD (0 + j) 0) = sb_token.getD (0 + j) 0 by decide +kernel) j hj
def sb_base64 : List Int32 := [65, 66, 67, 68, 69, 70, 71, 72, 73, 74, 75, 76, 77, 78, 79, 80, 81, 82, 83, 84, 85, 86, 87, 88, 89, 90, 97, 98, 99, 100, 101, 102, 103, 104, 105, 106, 107, 108, 109, 110, 111, 112, 113, 114, 115, 116, 117, 118, 119, 120, 121, 122, 48, 49, 50, 51, 52, 53, 54, 55, 56, 57, 45, 95]
theorem sb_base64_b : byt (fun i => sb_base64.getD i 0) 0 sb_base64.length := by
  intro j hj
  exact (show ∀ j, j < 64 → b8 (sb_base64.getD (0 + j) 0) = sb_base64.getD (0 + j) 0 by decide +kernel) j hj
def sb_S256 : List Int32 := [83, 50, 53, 54]
theorem sb_S256_b : byt (fun i => sb_S256.getD i 0) 0 sb_S256.length := by
  intro j hj
  exact (show ∀ j, j < 4 → b8 (sb_S256.getD (0 + j) 0) = sb_S256.getD (0 + j) 0 by decide +kernel) j hj
def sb_errorIs : List Int32 := [101, 114, 114, 111, 114, 61]
theorem sb_errorIs_b : byt (fun i => sb_errorIs.getD i 0) 0 sb_errorIs.length := by
  intro j hj
  exact (show ∀ j, j < 6 → b8 (sb_errorIs.getD (0 + j) 0) = sb_errorIs.getD (0 + j) 0 by decide +kernel) j hj
def sb_invalid_request : List Int32 := [105, 110, 118, 97, 108, 105, 100, 95, 114, 101, 113, 117, 101, 115, 116]
theorem sb_invalid_request_b : byt (fun i => sb_invalid_request.getD i 0) 0 sb_invalid_request.length := by
  intro j hj
  exact (show ∀ j, j < 15 → b8 (sb_invalid_request.getD (0 + j) 0) = sb_invalid_request.getD (0 + j) 0 by decide +kernel) j hj
def sb_access_denied : List Int32 := [97, 99, 99, 101, 115, 115, 95, 100, 101, 110, 105, 101, 100]
theorem sb_access_denied_b : byt (fun i => sb_access_denied.getD i 0) 0 sb_access_denied.length := by
  intro j hj
  exact (show ∀ j, j < 13 → b8 (sb_access_denied.getD (0 + j) 0) = sb_access_denied.getD (0 + j) 0 by decide +kernel) j hj
def sb_unsupported_response_type : List Int32 := [117, 110, 115, 117, 112, 112, 111, 114, 116, 101, 100, 95, 114, 101, 115, 112, 111, 110, 115, 101, 95, 116, 121, 112, 101]
theorem sb_unsupported_response_type_b : byt (fun i => sb_unsupported_response_type.getD i 0) 0 sb_unsupported_response_type.length := by
  intro j hj
  exact (show ∀ j, j < 25 → b8 (sb_unsupported_response_type.getD (0 + j) 0) = sb_unsupported_response_type.getD (0 + j) 0 by decide +kernel) j hj
def sb_invalid_scope : List Int32 := [105, 110, 118, 97, 108, 105, 100, 95, 115, 99, 111, 112, 101]
theorem sb_invalid_scope_b : byt (fun i => sb_invalid_scope.getD i 0) 0 sb_invalid_scope.length := by
  intro j hj
  exact (show ∀ j, j < 13 → b8 (sb_invalid_scope.getD (0 + j) 0) = sb_invalid_scope.getD (0 + j) 0 by decide +kernel) j hj
def sb_invalid_client : List Int32 := [105, 110, 118, 97, 108, 105, 100, 95, 99, 108, 105, 101, 110, 116]
theorem sb_invalid_client_b : byt (fun i => sb_invalid_client.getD i 0) 0 sb_invalid_client.length := by
  intro j hj
  exact (show ∀ j, j < 14 → b8 (sb_invalid_client.getD (0 + j) 0) = sb_invalid_client.getD (0 + j) 0 by decide +kernel) j hj
def sb_invalid_grant : List Int32 := [105, 110, 118, 97, 108, 105, 100, 95, 103, 114, 97, 110, 116]
theorem sb_invalid_grant_b : byt (fun i => sb_invalid_grant.getD i 0) 0 sb_invalid_grant.length := by
  intro j hj
  exact (show ∀ j, j < 13 → b8 (sb_invalid_grant.getD (0 + j) 0) = sb_invalid_grant.getD (0 + j) 0 by decide +kernel) j hj
def sb_unsupported_grant_type : List Int32 := [117, 110, 115, 117, 112, 112, 111, 114, 116, 101, 100, 95, 103, 114, 97, 110, 116, 95, 116, 121, 112, 101]
theorem sb_unsupported_grant_type_b : byt (fun i => sb_unsupported_grant_type.getD i 0) 0 sb_unsupported_grant_type.length := by
  intro j hj
  exact (show ∀ j, j < 22 → b8 (sb_unsupported_grant_type.getD (0 + j) 0) = sb_unsupported_grant_type.getD (0 + j) 0 by decide +kernel) j hj
def sb_invalid_token : List Int32 := [105, 110, 118, 97, 108, 105, 100, 95, 116, 111, 107, 101, 110]
theorem sb_invalid_token_b : byt (fun i => sb_invalid_token.getD i 0) 0 sb_invalid_token.length := by
  intro j hj
  exact (show ∀ j, j < 13 → b8 (sb_invalid_token.getD (0 + j) 0) = sb_invalid_token.getD (0 + j) 0 by decide +kernel) j hj
def sb_insufficient_scope : List Int32 := [105, 110, 115, 117, 102, 102, 105, 99, 105, 101, 110, 116, 95, 115, 99, 111, 112, 101]
theorem sb_insufficient_scope_b : byt (fun i => sb_insufficient_scope.getD i 0) 0 sb_insufficient_scope.length := by
  intro j hj
  exact (show ∀ j, j < 18 → b8 (sb_insufficient_scope.getD (0 + j) 0) = sb_insufficient_scope.getD (0 + j) 0 by decide +kernel) j hj
def sb_temporarily_unavailable : List Int32 := [116, 101, 109, 112, 111, 114, 97, 114, 105, 108, 121, 95, 117, 110, 97, 118, 97, 105, 108, 97, 98, 108, 101]
theorem sb_temporarily_unavailable_b : byt (fun i => sb_temporarily_unavailable.getD i 0) 0 sb_temporarily_unavailable.length := by
  intro j hj
  exact (show ∀ j, j < 23 → b8 (sb_temporarily_unavailable.getD (0 + j) 0) = sb_temporarily_unavailable.getD (0 + j) 0 by decide +kernel) j hj
def sb_empty : List Int32 := []
theorem sb_empty_b : byt (fun i => sb_empty.getD i 0) 0 sb_empty.length := by intro j hj; exact absurd hj (Nat.not_lt_zero j)
def sb_andState : List Int32 := [38, 115, 116, 97, 116, 101, 61]
theorem sb_andState_b : byt (fun i => sb_andState.getD i 0) 0 sb_andState.length := by
  intro j hj
  exact (show ∀ j, j < 7 → b8 (sb_andState.getD (0 + j) 0) = sb_andState.getD (0 + j) 0 by decide +kernel) j hj
def sb_0123456789ABCDEF : List Int32 := [48, 49, 50, 51, 52, 53, 54, 55, 56, 57, 65, 66, 67, 68, 69, 70]
theorem sb_0123456789ABCDEF_b : byt (fun i => sb_0123456789ABCDEF.getD i 0) 0 sb_0123456789ABCDEF.length := by
  intro j hj
  exact (show ∀ j, j < 16 → b8 (sb_0123456789ABCDEF.getD (0 + j) 0) = sb_0123456789ABCDEF.getD (0 + j) 0 by decide +kernel) j hj
def sb_openError : List Int32 := [123, 34, 101, 114, 114, 111, 114, 34, 58, 34]
theorem sb_openError_b : byt (fun i => sb_openError.getD i 0) 0 sb_openError.length := by
  intro j hj
  exact (show ∀ j, j < 10 → b8 (sb_openError.getD (0 + j) 0) = sb_openError.getD (0 + j) 0 by decide +kernel) j hj
def sb_close : List Int32 := [34, 125]
theorem sb_close_b : byt (fun i => sb_close.getD i 0) 0 sb_close.length := by
  intro j hj
  exact (show ∀ j, j < 2 → b8 (sb_close.getD (0 + j) 0) = sb_close.getD (0 + j) 0 by decide +kernel) j hj
def sb_authorization_code : List Int32 := [97, 117, 116, 104, 111, 114, 105, 122, 97, 116, 105, 111, 110, 95, 99, 111, 100, 101]
theorem sb_authorization_code_b : byt (fun i => sb_authorization_code.getD i 0) 0 sb_authorization_code.length := by
  intro j hj
  exact (show ∀ j, j < 18 → b8 (sb_authorization_code.getD (0 + j) 0) = sb_authorization_code.getD (0 + j) 0 by decide +kernel) j hj
def sb_openAccess : List Int32 := [123, 34, 97, 99, 99, 101, 115, 115, 95, 116, 111, 107, 101, 110, 34, 58, 34]
theorem sb_openAccess_b : byt (fun i => sb_openAccess.getD i 0) 0 sb_openAccess.length := by
  intro j hj
  exact (show ∀ j, j < 17 → b8 (sb_openAccess.getD (0 + j) 0) = sb_openAccess.getD (0 + j) 0 by decide +kernel) j hj
def sb_bearer : List Int32 := [34, 44, 34, 116, 111, 107, 101, 110, 95, 116, 121, 112, 101, 34, 58, 34, 66, 101, 97, 114, 101, 114, 34, 44, 34, 101, 120, 112, 105, 114, 101, 115, 95, 105, 110, 34, 58]
theorem sb_bearer_b : byt (fun i => sb_bearer.getD i 0) 0 sb_bearer.length := by
  intro j hj
  exact (show ∀ j, j < 37 → b8 (sb_bearer.getD (0 + j) 0) = sb_bearer.getD (0 + j) 0 by decide +kernel) j hj
def sb_andRefresh : List Int32 := [44, 34, 114, 101, 102, 114, 101, 115, 104, 95, 116, 111, 107, 101, 110, 34, 58, 34]
theorem sb_andRefresh_b : byt (fun i => sb_andRefresh.getD i 0) 0 sb_andRefresh.length := by
  intro j hj
  exact (show ∀ j, j < 18 → b8 (sb_andRefresh.getD (0 + j) 0) = sb_andRefresh.getD (0 + j) 0 by decide +kernel) j hj
def sb_andScope : List Int32 := [44, 34, 115, 99, 111, 112, 101, 34, 58, 34]
theorem sb_andScope_b : byt (fun i => sb_andScope.getD i 0) 0 sb_andScope.length := by
  intro j hj
  exact (show ∀ j, j < 10 → b8 (sb_andScope.getD (0 + j) 0) = sb_andScope.getD (0 + j) 0 by decide +kernel) j hj
def sb_codeIs : List Int32 := [99, 111, 100, 101, 61]
theorem sb_codeIs_b : byt (fun i => sb_codeIs.getD i 0) 0 sb_codeIs.length := by
  intro j hj
  exact (show ∀ j, j < 5 → b8 (sb_codeIs.getD (0 + j) 0) = sb_codeIs.getD (0 + j) 0 by decide +kernel) j hj
def sb_errorDenied : List Int32 := [101, 114, 114, 111, 114, 61, 97, 99, 99, 101, 115, 115, 95, 100, 101, 110, 105, 101, 100]
theorem sb_errorDenied_b : byt (fun i => sb_errorDenied.getD i 0) 0 sb_errorDenied.length := by
  intro j hj
  exact (show ∀ j, j < 19 → b8 (sb_errorDenied.getD (0 + j) 0) = sb_errorDenied.getD (0 + j) 0 by decide +kernel) j hj
def sTab : List (String × Nat × List Int32) := [(RX4, 28, sb_response_type), (RX4, 37, sb_client_id), (RX4, 42, sb_redirect_uri), (RX4, 47, sb_scope), (RX4, 51, sb_state), (RX4, 55, sb_code_challenge), (RX4, 60, sb_code_challenge_method), (RX4, 65, sb_grant_type), (RX4, 70, sb_code), (RX4, 74, sb_code_verifier), (RX4, 79, sb_client_secret), (RX4, 84, sb_refresh_token), (RX4, 89, sb_token), (RX9, 55, sb_base64), (RX11, 424, sb_code), (RX11, 432, sb_S256), (RX11, 441, sb_errorIs), (RX11, 530, sb_invalid_request), (RX11, 532, sb_access_denied), (RX11, 534, sb_unsupported_response_type), (RX11, 536, sb_invalid_scope), (RX11, 538, sb_invalid_client), (RX11, 540, sb_invalid_grant), (RX11, 542, sb_unsupported_grant_type), (RX11, 544, sb_invalid_token), (RX11, 546, sb_insufficient_scope), (RX11, 548, sb_temporarily_unavailable), (RX11, 550, sb_empty), (RX11, 461, sb_andState), (RX9, 51, sb_0123456789ABCDEF), (RX11, 528, sb_openError), (RX11, 522, sb_close), (RX11, 295, sb_authorization_code), (RX11, 505, sb_openAccess), (RX11, 510, sb_bearer), (RX11, 515, sb_andRefresh), (RX11, 517, sb_andScope), (RX11, 305, sb_refresh_token), (RX11, 453, sb_codeIs), (RX12, 213, sb_response_type), (RX12, 215, sb_client_id), (RX12, 217, sb_redirect_uri), (RX12, 219, sb_scope), (RX12, 221, sb_state), (RX12, 223, sb_code_challenge), (RX12, 225, sb_code_challenge_method), (RX12, 227, sb_grant_type), (RX12, 229, sb_code), (RX12, 231, sb_code_verifier), (RX12, 233, sb_client_secret), (RX12, 235, sb_refresh_token), (RX12, 237, sb_token), (RX12, 389, sb_S256), (RX12, 400, sb_errorIs), (RX12, 302, sb_invalid_request), (RX12, 304, sb_access_denied), (RX12, 306, sb_unsupported_response_type), (RX12, 308, sb_invalid_scope), (RX12, 310, sb_invalid_client), (RX12, 312, sb_invalid_grant), (RX12, 314, sb_unsupported_grant_type), (RX12, 316, sb_invalid_token), (RX12, 318, sb_insufficient_scope), (RX12, 320, sb_temporarily_unavailable), (RX12, 343, sb_andState), (RX12, 414, sb_codeIs), (RX12, 416, sb_errorDenied), (RX12, 332, sb_openError), (RX12, 341, sb_close), (RX12, 427, sb_authorization_code), (RX12, 468, sb_openAccess), (RX12, 470, sb_bearer), (RX12, 472, sb_andRefresh), (RX12, 474, sb_andScope)]
def kSt (Λ : kL) : Prop := ∀ e ∈ sTab, kStr Λ (kSa Λ e.1 e.2.1) e.2.2
theorem st_X4_28 {Λ : kL} (h : kSt Λ) : kStr Λ (kSa Λ RX4 28) sb_response_type := h (RX4, 28, sb_response_type) (List.mem_of_getElem? (i := 0) rfl)
theorem st_X4_37 {Λ : kL} (h : kSt Λ) : kStr Λ (kSa Λ RX4 37) sb_client_id := h (RX4, 37, sb_client_id) (List.mem_of_getElem? (i := 1) rfl)
theorem st_X4_42 {Λ : kL} (h : kSt Λ) : kStr Λ (kSa Λ RX4 42) sb_redirect_uri := h (RX4, 42, sb_redirect_uri) (List.mem_of_getElem? (i := 2) rfl)
theorem st_X4_47 {Λ : kL} (h : kSt Λ) : kStr Λ (kSa Λ RX4 47) sb_scope := h (RX4, 47, sb_scope) (List.mem_of_getElem? (i := 3) rfl)
theorem st_X4_51 {Λ : kL} (h : kSt Λ) : kStr Λ (kSa Λ RX4 51) sb_state := h (RX4, 51, sb_state) (List.mem_of_getElem? (i := 4) rfl)
theorem st_X4_55 {Λ : kL} (h : kSt Λ) : kStr Λ (kSa Λ RX4 55) sb_code_challenge := h (RX4, 55, sb_code_challenge) (List.mem_of_getElem? (i := 5) rfl)
theorem st_X4_60 {Λ : kL} (h : kSt Λ) : kStr Λ (kSa Λ RX4 60) sb_code_challenge_method := h (RX4, 60, sb_code_challenge_method) (List.mem_of_getElem? (i := 6) rfl)
theorem st_X4_65 {Λ : kL} (h : kSt Λ) : kStr Λ (kSa Λ RX4 65) sb_grant_type := h (RX4, 65, sb_grant_type) (List.mem_of_getElem? (i := 7) rfl)
theorem st_X4_70 {Λ : kL} (h : kSt Λ) : kStr Λ (kSa Λ RX4 70) sb_code := h (RX4, 70, sb_code) (List.mem_of_getElem? (i := 8) rfl)
theorem st_X4_74 {Λ : kL} (h : kSt Λ) : kStr Λ (kSa Λ RX4 74) sb_code_verifier := h (RX4, 74, sb_code_verifier) (List.mem_of_getElem? (i := 9) rfl)
theorem st_X4_79 {Λ : kL} (h : kSt Λ) : kStr Λ (kSa Λ RX4 79) sb_client_secret := h (RX4, 79, sb_client_secret) (List.mem_of_getElem? (i := 10) rfl)
theorem st_X4_84 {Λ : kL} (h : kSt Λ) : kStr Λ (kSa Λ RX4 84) sb_refresh_token := h (RX4, 84, sb_refresh_token) (List.mem_of_getElem? (i := 11) rfl)
theorem st_X4_89 {Λ : kL} (h : kSt Λ) : kStr Λ (kSa Λ RX4 89) sb_token := h (RX4, 89, sb_token) (List.mem_of_getElem? (i := 12) rfl)
theorem st_X9_55 {Λ : kL} (h : kSt Λ) : kStr Λ (kSa Λ RX9 55) sb_base64 := h (RX9, 55, sb_base64) (List.mem_of_getElem? (i := 13) rfl)
theorem st_X11_424 {Λ : kL} (h : kSt Λ) : kStr Λ (kSa Λ RX11 424) sb_code := h (RX11, 424, sb_code) (List.mem_of_getElem? (i := 14) rfl)
theorem st_X11_432 {Λ : kL} (h : kSt Λ) : kStr Λ (kSa Λ RX11 432) sb_S256 := h (RX11, 432, sb_S256) (List.mem_of_getElem? (i := 15) rfl)
theorem st_X11_441 {Λ : kL} (h : kSt Λ) : kStr Λ (kSa Λ RX11 441) sb_errorIs := h (RX11, 441, sb_errorIs) (List.mem_of_getElem? (i := 16) rfl)
theorem st_X11_530 {Λ : kL} (h : kSt Λ) : kStr Λ (kSa Λ RX11 530) sb_invalid_request := h (RX11, 530, sb_invalid_request) (List.mem_of_getElem? (i := 17) rfl)
theorem st_X11_532 {Λ : kL} (h : kSt Λ) : kStr Λ (kSa Λ RX11 532) sb_access_denied := h (RX11, 532, sb_access_denied) (List.mem_of_getElem? (i := 18) rfl)
theorem st_X11_534 {Λ : kL} (h : kSt Λ) : kStr Λ (kSa Λ RX11 534) sb_unsupported_response_type := h (RX11, 534, sb_unsupported_response_type) (List.mem_of_getElem? (i := 19) rfl)
theorem st_X11_536 {Λ : kL} (h : kSt Λ) : kStr Λ (kSa Λ RX11 536) sb_invalid_scope := h (RX11, 536, sb_invalid_scope) (List.mem_of_getElem? (i := 20) rfl)
theorem st_X11_538 {Λ : kL} (h : kSt Λ) : kStr Λ (kSa Λ RX11 538) sb_invalid_client := h (RX11, 538, sb_invalid_client) (List.mem_of_getElem? (i := 21) rfl)
theorem st_X11_540 {Λ : kL} (h : kSt Λ) : kStr Λ (kSa Λ RX11 540) sb_invalid_grant := h (RX11, 540, sb_invalid_grant) (List.mem_of_getElem? (i := 22) rfl)
theorem st_X11_542 {Λ : kL} (h : kSt Λ) : kStr Λ (kSa Λ RX11 542) sb_unsupported_grant_type := h (RX11, 542, sb_unsupported_grant_type) (List.mem_of_getElem? (i := 23) rfl)
theorem st_X11_544 {Λ : kL} (h : kSt Λ) : kStr Λ (kSa Λ RX11 544) sb_invalid_token := h (RX11, 544, sb_invalid_token) (List.mem_of_getElem? (i := 24) rfl)
theorem st_X11_546 {Λ : kL} (h : kSt Λ) : kStr Λ (kSa Λ RX11 546) sb_insufficient_scope := h (RX11, 546, sb_insufficient_scope) (List.mem_of_getElem? (i := 25) rfl)
theorem st_X11_548 {Λ : kL} (h : kSt Λ) : kStr Λ (kSa Λ RX11 548) sb_temporarily_unavailable := h (RX11, 548, sb_temporarily_unavailable) (List.mem_of_getElem? (i := 26) rfl)
theorem st_X11_550 {Λ : kL} (h : kSt Λ) : kStr Λ (kSa Λ RX11 550) sb_empty := h (RX11, 550, sb_empty) (List.mem_of_getElem? (i := 27) rfl)
theorem st_X11_461 {Λ : kL} (h : kSt Λ) : kStr Λ (kSa Λ RX11 461) sb_andState := h (RX11, 461, sb_andState) (List.mem_of_getElem? (i := 28) rfl)
theorem st_X9_51 {Λ : kL} (h : kSt Λ) : kStr Λ (kSa Λ RX9 51) sb_0123456789ABCDEF := h (RX9, 51, sb_0123456789ABCDEF) (List.mem_of_getElem? (i := 29) rfl)
theorem st_X11_528 {Λ : kL} (h : kSt Λ) : kStr Λ (kSa Λ RX11 528) sb_openError := h (RX11, 528, sb_openError) (List.mem_of_getElem? (i := 30) rfl)
theorem st_X11_522 {Λ : kL} (h : kSt Λ) : kStr Λ (kSa Λ RX11 522) sb_close := h (RX11, 522, sb_close) (List.mem_of_getElem? (i := 31) rfl)
theorem st_X11_295 {Λ : kL} (h : kSt Λ) : kStr Λ (kSa Λ RX11 295) sb_authorization_code := h (RX11, 295, sb_authorization_code) (List.mem_of_getElem? (i := 32) rfl)
theorem st_X11_505 {Λ : kL} (h : kSt Λ) : kStr Λ (kSa Λ RX11 505) sb_openAccess := h (RX11, 505, sb_openAccess) (List.mem_of_getElem? (i := 33) rfl)
theorem st_X11_510 {Λ : kL} (h : kSt Λ) : kStr Λ (kSa Λ RX11 510) sb_bearer := h (RX11, 510, sb_bearer) (List.mem_of_getElem? (i := 34) rfl)
theorem st_X11_515 {Λ : kL} (h : kSt Λ) : kStr Λ (kSa Λ RX11 515) sb_andRefresh := h (RX11, 515, sb_andRefresh) (List.mem_of_getElem? (i := 35) rfl)
theorem st_X11_517 {Λ : kL} (h : kSt Λ) : kStr Λ (kSa Λ RX11 517) sb_andScope := h (RX11, 517, sb_andScope) (List.mem_of_getElem? (i := 36) rfl)
theorem st_X11_305 {Λ : kL} (h : kSt Λ) : kStr Λ (kSa Λ RX11 305) sb_refresh_token := h (RX11, 305, sb_refresh_token) (List.mem_of_getElem? (i := 37) rfl)
theorem st_X11_453 {Λ : kL} (h : kSt Λ) : kStr Λ (kSa Λ RX11 453) sb_codeIs := h (RX11, 453, sb_codeIs) (List.mem_of_getElem? (i := 38) rfl)
theorem st_X12_213 {Λ : kL} (h : kSt Λ) : kStr Λ (kSa Λ RX12 213) sb_response_type := h (RX12, 213, sb_response_type) (List.mem_of_getElem? (i := 39) rfl)
theorem st_X12_215 {Λ : kL} (h : kSt Λ) : kStr Λ (kSa Λ RX12 215) sb_client_id := h (RX12, 215, sb_client_id) (List.mem_of_getElem? (i := 40) rfl)
theorem st_X12_217 {Λ : kL} (h : kSt Λ) : kStr Λ (kSa Λ RX12 217) sb_redirect_uri := h (RX12, 217, sb_redirect_uri) (List.mem_of_getElem? (i := 41) rfl)
theorem st_X12_219 {Λ : kL} (h : kSt Λ) : kStr Λ (kSa Λ RX12 219) sb_scope := h (RX12, 219, sb_scope) (List.mem_of_getElem? (i := 42) rfl)
theorem st_X12_221 {Λ : kL} (h : kSt Λ) : kStr Λ (kSa Λ RX12 221) sb_state := h (RX12, 221, sb_state) (List.mem_of_getElem? (i := 43) rfl)
theorem st_X12_223 {Λ : kL} (h : kSt Λ) : kStr Λ (kSa Λ RX12 223) sb_code_challenge := h (RX12, 223, sb_code_challenge) (List.mem_of_getElem? (i := 44) rfl)
theorem st_X12_225 {Λ : kL} (h : kSt Λ) : kStr Λ (kSa Λ RX12 225) sb_code_challenge_method := h (RX12, 225, sb_code_challenge_method) (List.mem_of_getElem? (i := 45) rfl)
theorem st_X12_227 {Λ : kL} (h : kSt Λ) : kStr Λ (kSa Λ RX12 227) sb_grant_type := h (RX12, 227, sb_grant_type) (List.mem_of_getElem? (i := 46) rfl)
theorem st_X12_229 {Λ : kL} (h : kSt Λ) : kStr Λ (kSa Λ RX12 229) sb_code := h (RX12, 229, sb_code) (List.mem_of_getElem? (i := 47) rfl)
theorem st_X12_231 {Λ : kL} (h : kSt Λ) : kStr Λ (kSa Λ RX12 231) sb_code_verifier := h (RX12, 231, sb_code_verifier) (List.mem_of_getElem? (i := 48) rfl)
theorem st_X12_233 {Λ : kL} (h : kSt Λ) : kStr Λ (kSa Λ RX12 233) sb_client_secret := h (RX12, 233, sb_client_secret) (List.mem_of_getElem? (i := 49) rfl)
theorem st_X12_235 {Λ : kL} (h : kSt Λ) : kStr Λ (kSa Λ RX12 235) sb_refresh_token := h (RX12, 235, sb_refresh_token) (List.mem_of_getElem? (i := 50) rfl)
theorem st_X12_237 {Λ : kL} (h : kSt Λ) : kStr Λ (kSa Λ RX12 237) sb_token := h (RX12, 237, sb_token) (List.mem_of_getElem? (i := 51) rfl)
theorem st_X12_389 {Λ : kL} (h : kSt Λ) : kStr Λ (kSa Λ RX12 389) sb_S256 := h (RX12, 389, sb_S256) (List.mem_of_getElem? (i := 52) rfl)
theorem st_X12_400 {Λ : kL} (h : kSt Λ) : kStr Λ (kSa Λ RX12 400) sb_errorIs := h (RX12, 400, sb_errorIs) (List.mem_of_getElem? (i := 53) rfl)
theorem st_X12_302 {Λ : kL} (h : kSt Λ) : kStr Λ (kSa Λ RX12 302) sb_invalid_request := h (RX12, 302, sb_invalid_request) (List.mem_of_getElem? (i := 54) rfl)
theorem st_X12_304 {Λ : kL} (h : kSt Λ) : kStr Λ (kSa Λ RX12 304) sb_access_denied := h (RX12, 304, sb_access_denied) (List.mem_of_getElem? (i := 55) rfl)
theorem st_X12_306 {Λ : kL} (h : kSt Λ) : kStr Λ (kSa Λ RX12 306) sb_unsupported_response_type := h (RX12, 306, sb_unsupported_response_type) (List.mem_of_getElem? (i := 56) rfl)
theorem st_X12_308 {Λ : kL} (h : kSt Λ) : kStr Λ (kSa Λ RX12 308) sb_invalid_scope := h (RX12, 308, sb_invalid_scope) (List.mem_of_getElem? (i := 57) rfl)
theorem st_X12_310 {Λ : kL} (h : kSt Λ) : kStr Λ (kSa Λ RX12 310) sb_invalid_client := h (RX12, 310, sb_invalid_client) (List.mem_of_getElem? (i := 58) rfl)
theorem st_X12_312 {Λ : kL} (h : kSt Λ) : kStr Λ (kSa Λ RX12 312) sb_invalid_grant := h (RX12, 312, sb_invalid_grant) (List.mem_of_getElem? (i := 59) rfl)
theorem st_X12_314 {Λ : kL} (h : kSt Λ) : kStr Λ (kSa Λ RX12 314) sb_unsupported_grant_type := h (RX12, 314, sb_unsupported_grant_type) (List.mem_of_getElem? (i := 60) rfl)
theorem st_X12_316 {Λ : kL} (h : kSt Λ) : kStr Λ (kSa Λ RX12 316) sb_invalid_token := h (RX12, 316, sb_invalid_token) (List.mem_of_getElem? (i := 61) rfl)
theorem st_X12_318 {Λ : kL} (h : kSt Λ) : kStr Λ (kSa Λ RX12 318) sb_insufficient_scope := h (RX12, 318, sb_insufficient_scope) (List.mem_of_getElem? (i := 62) rfl)
theorem st_X12_320 {Λ : kL} (h : kSt Λ) : kStr Λ (kSa Λ RX12 320) sb_temporarily_unavailable := h (RX12, 320, sb_temporarily_unavailable) (List.mem_of_getElem? (i := 63) rfl)
theorem st_X12_343 {Λ : kL} (h : kSt Λ) : kStr Λ (kSa Λ RX12 343) sb_andState := h (RX12, 343, sb_andState) (List.mem_of_getElem? (i := 64) rfl)
theorem st_X12_414 {Λ : kL} (h : kSt Λ) : kStr Λ (kSa Λ RX12 414) sb_codeIs := h (RX12, 414, sb_codeIs) (List.mem_of_getElem? (i := 65) rfl)
theorem st_X12_416 {Λ : kL} (h : kSt Λ) : kStr Λ (kSa Λ RX12 416) sb_errorDenied := h (RX12, 416, sb_errorDenied) (List.mem_of_getElem? (i := 66) rfl)
theorem st_X12_332 {Λ : kL} (h : kSt Λ) : kStr Λ (kSa Λ RX12 332) sb_openError := h (RX12, 332, sb_openError) (List.mem_of_getElem? (i := 67) rfl)
theorem st_X12_341 {Λ : kL} (h : kSt Λ) : kStr Λ (kSa Λ RX12 341) sb_close := h (RX12, 341, sb_close) (List.mem_of_getElem? (i := 68) rfl)
theorem st_X12_427 {Λ : kL} (h : kSt Λ) : kStr Λ (kSa Λ RX12 427) sb_authorization_code := h (RX12, 427, sb_authorization_code) (List.mem_of_getElem? (i := 69) rfl)
theorem st_X12_468 {Λ : kL} (h : kSt Λ) : kStr Λ (kSa Λ RX12 468) sb_openAccess := h (RX12, 468, sb_openAccess) (List.mem_of_getElem? (i := 70) rfl)
theorem st_X12_470 {Λ : kL} (h : kSt Λ) : kStr Λ (kSa Λ RX12 470) sb_bearer := h (RX12, 470, sb_bearer) (List.mem_of_getElem? (i := 71) rfl)
theorem st_X12_472 {Λ : kL} (h : kSt Λ) : kStr Λ (kSa Λ RX12 472) sb_andRefresh := h (RX12, 472, sb_andRefresh) (List.mem_of_getElem? (i := 72) rfl)
theorem st_X12_474 {Λ : kL} (h : kSt Λ) : kStr Λ (kSa Λ RX12 474) sb_andScope := h (RX12, 474, sb_andScope) (List.mem_of_getElem? (i := 73) rfl)
def nmL : List (List Int32) := [sb_response_type, sb_client_id, sb_redirect_uri, sb_scope, sb_state, sb_code_challenge, sb_code_challenge_method, sb_grant_type, sb_code, sb_code_verifier, sb_client_secret, sb_refresh_token, sb_token]
/-- which name a text is, 13 if none -/
def knw (l : List Int32) : Nat := fsti (fun k => decide (l = nmL.getD k [])) 13 0
