/-! NUMBERS AND CODES OF WAYS: what holds of each is checked way by way -/
def cdN (G c i : Nat) : Nat := c / 6 ^ (G - 1 - i) % 6
def metN (G c : Nat) : Nat := foldN (fun k m => m ||| 1 <<< (c / 6 ^ k % 6)) 0 G
def onesN (t : Nat) : Nat := foldN (fun k s => s + (t >>> k &&& 1)) 0 8
def okW (n G c : Nat) : Bool := decide (onesN (metN G c) = G) && decide (metN G c < 2 ^ n)
def disC (n G : Nat) (L : Nat → Nat) : Bool := allB (fun i => decide (L i < n) && allB (fun j => !decide (L i = L j)) i) G
def chkA (n G T w : Nat) : Bool := allB (fun i => okS n T w i && decide (cntL (wlN n T w) i ≤ wlN n T w i)) G && decide (numN (wlN n T w) n G = w) && disC n G (wlN n T w) && decide (codeN (wlN n T w) G < codeN (wlN n T (w + 1)) G ∨ w + 1 = T)
def chkB (n G T c : Nat) : Bool := (okW n G c == disC n G (cdN G c)) && (!okW n G c || (decide (numN (cdN G c) n G < T) && decide (codeN (wlN n T (numN (cdN G c) n G)) G = c)))
theorem chkA_21 : allB (chkA 2 1 2) 2 = true := by decide +kernel
theorem chkA_31 : allB (chkA 3 1 3) 3 = true := by decide +kernel
theorem chkA_32 : allB (chkA 3 2 6) 6 = true := by decide +kernel
theorem chkA_41 : allB (chkA 4 1 4) 4 = true := by decide +kernel
theorem chkA_42 : allB (chkA 4 2 12) 12 = true := by decide +kernel
theorem chkA_43 : allB (chkA 4 3 24) 24 = true := by decide +kernel
theorem chkA_51 : allB (chkA 5 1 5) 5 = true := by decide +kernel
theorem chkA_52 : allB (chkA 5 2 20) 20 = true := by decide +kernel
theorem chkA_53 : allB (chkA 5 3 60) 60 = true := by decide +kernel
theorem chkA_54 : allB (chkA 5 4 120) 120 = true := by decide +kernel
theorem chkA_61 : allB (chkA 6 1 6) 6 = true := by decide +kernel
theorem chkA_62 : allB (chkA 6 2 30) 30 = true := by decide +kernel
theorem chkA_63 : allB (chkA 6 3 120) 120 = true := by decide +kernel
theorem chkA_64 : allB (chkA 6 4 360) 360 = true := by decide +kernel
theorem chkA_65 : allB (chkA 6 5 720) 720 = true := by decide +kernel
theorem chkB_21 : allB (fun a => allB (fun b => chkB 2 1 2 (6 * a + b)) 6) 1 = true := by decide +kernel
theorem chkB_31 : allB (fun a => allB (fun b => chkB 3 1 3 (6 * a + b)) 6) 1 = true := by decide +kernel
theorem chkB_32 : allB (fun a => allB (fun b => chkB 3 2 6 (6 * a + b)) 6) 6 = true := by decide +kernel
theorem chkB_41 : allB (fun a => allB (fun b => chkB 4 1 4 (6 * a + b)) 6) 1 = true := by decide +kernel
theorem chkB_42 : allB (fun a => allB (fun b => chkB 4 2 12 (6 * a + b)) 6) 6 = true := by decide +kernel
theorem chkB_43 : allB (fun a => allB (fun b => chkB 4 3 24 (6 * a + b)) 6) 36 = true := by decide +kernel
theorem chkB_51 : allB (fun a => allB (fun b => chkB 5 1 5 (6 * a + b)) 6) 1 = true := by decide +kernel
theorem chkB_52 : allB (fun a => allB (fun b => chkB 5 2 20 (6 * a + b)) 6) 6 = true := by decide +kernel
theorem chkB_53 : allB (fun a => allB (fun b => chkB 5 3 60 (6 * a + b)) 6) 36 = true := by decide +kernel
theorem chkB_54 : allB (fun a => allB (fun b => chkB 5 4 120 (6 * a + b)) 6) 216 = true := by decide +kernel
theorem chkB_61 : allB (fun a => allB (fun b => chkB 6 1 6 (6 * a + b)) 6) 1 = true := by decide +kernel
theorem chkB_62 : allB (fun a => allB (fun b => chkB 6 2 30 (6 * a + b)) 6) 6 = true := by decide +kernel
theorem chkB_63 : allB (fun a => allB (fun b => chkB 6 3 120 (6 * a + b)) 6) 36 = true := by decide +kernel
theorem chkB_64 : allB (fun a => allB (fun b => chkB 6 4 360 (6 * a + b)) 6) 216 = true := by decide +kernel
theorem chkB_65 : allB (fun a => allB (fun b => chkB 6 5 720 (6 * a + b)) 6) 1296 = true := by decide +kernel
