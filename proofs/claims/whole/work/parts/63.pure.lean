/-! the tree of the words, as one number: 512 places of 16 bits -/
def gT (t j : Nat) : Nat := t / 65536 ^ j % 65536
def dT (v : Nat) : Int32 := if v < 32768 then nI v else - nI (65536 - v)
theorem gT_set {t j v : Nat} (h0 : gT t j = 0) (hv : v < 65536) (i : Nat) : gT (t + v * 65536 ^ j) i = if i = j then v else gT t i := by
  unfold gT at *
  rcases Nat.lt_trichotomy i j with h | h | h
  · rw [if_neg (by omega)]
    obtain ⟨d, rfl⟩ : ∃ d, j = i + (d + 1) := ⟨j - i - 1, by omega⟩
    have e : v * 65536 ^ (i + (d + 1)) = 65536 ^ i * (65536 * (v * 65536 ^ d)) := by
      rw [Nat.pow_add, Nat.pow_succ, Nat.mul_left_comm, Nat.mul_comm (65536 ^ d) 65536, ← Nat.mul_assoc v, Nat.mul_comm v 65536, Nat.mul_assoc 65536]
    rw [e, Nat.add_mul_div_left _ _ (Nat.pow_pos (by decide)), Nat.add_mul_mod_self_left]
  · subst h
    rw [if_pos rfl, Nat.add_mul_div_right _ _ (Nat.pow_pos (by decide))]
    omega
  · rw [if_neg (by omega)]
    obtain ⟨d, rfl⟩ : ∃ d, i = j + (1 + d) := ⟨i - j - 1, by omega⟩
    have e : ∀ x, x / 65536 ^ (j + (1 + d)) = x / 65536 ^ j / 65536 / 65536 ^ d := by
      intro x
      rw [Nat.pow_add, Nat.pow_add, ← Nat.div_div_eq_div_mul, ← Nat.div_div_eq_div_mul, Nat.pow_one]
    rw [e, e, Nat.add_mul_div_right _ _ (Nat.pow_pos (by decide))]
    have : (t / 65536 ^ j + v) / 65536 = t / 65536 ^ j / 65536 := by omega
    rw [this]
def simT (tr : (Nat → Int32) × Int32) (t n : Nat) : Prop := (∀ j, j < 512 → tr.1 j = dT (gT t j)) ∧ tr.2 = nI n ∧ n ≤ 256
theorem ix2 {nd b : Nat} : (2 : Int32) * nI nd + nI b = nI (2 * nd + b) := by rw [show (2 : Int32) * nI nd = nI (2 * nd) from pk_mul 2 nd, nI_add]
theorem follow_f {tr : (Nat → Int32) × Int32} {t n : Nat} (h : simT tr t n) {nd b : Nat} (hn : nd < 256) (hb : b < 2) : f_Tree_follow tr (nI nd) (nI b) = dT (gT t (2 * nd + b)) := by
  unfold f_Tree_follow
  rw [ix2]
  dsimp only
  rw [if_neg (nI_pos (by omega)), if_pos (nI_lt (by omega) (by omega)), nI_clamp (by omega)]
  exact h.1 _ (by omega)
theorem set_f {tr : (Nat → Int32) × Int32} {t n : Nat} (h : simT tr t n) {nd b v : Nat} (hn : nd < 256) (hb : b < 2) (hv : v < 65536) (h0 : gT t (2 * nd + b) = 0) : simT (f_Tree_set tr (nI nd) (nI b) (dT v)) (t + v * 65536 ^ (2 * nd + b)) n := by
  unfold f_Tree_set
  rw [ix2]
  dsimp only
  rw [if_neg (nI_pos (by omega)), if_neg (nI_ge (by omega) (by omega)), nI_clamp (by omega)]
  refine ⟨fun j hj => ?_, h.2⟩
  rw [gT_set h0 hv]
  by_cases e : j = 2 * nd + b
  · rw [if_pos e, e]; exact pk_us
  · rw [if_neg e, ← h.1 j hj]; exact pk_un e
theorem dT_s {v : Nat} (h : v < 32768) : dT v = nI v := if_pos h
def loopN (w m : Nat) : Nat → Nat → Nat → Nat → Option (Nat × Nat)
  | 0, t, n, nd => if gT t (2 * nd + w % 2) = 0 then some (t + (65535 - m) * 65536 ^ (2 * nd + w % 2), n) else none
  | k + 1, t, n, nd => if gT t (2 * nd + w / 2 ^ (k + 1) % 2) = 0 then (if n < 256 then loopN w m k (t + n * 65536 ^ (2 * nd + w / 2 ^ (k + 1) % 2)) (n + 1) n else none)
      else if gT t (2 * nd + w / 2 ^ (k + 1) % 2) < 256 then loopN w m k t n (gT t (2 * nd + w / 2 ^ (k + 1) % 2)) else none
theorem nI_not {m : Nat} (hm : m ≤ 2560) : nI m ^^^ (-1) = dT (65535 - m) := by
  have e : dT (65535 - m) = - nI (m + 1) := by unfold dT; rw [if_neg (by omega), show 65536 - (65535 - m) = m + 1 by omega]
  rw [e]
  have h1 : (-1 : Int32).toBitVec = BitVec.allOnes 32 := by decide
  apply Int32.toBitVec_inj.mp
  rw [Int32.toBitVec_xor, h1, Int32.toBitVec_neg]
  show BitVec.ofNat 32 m ^^^ _ = - BitVec.ofNat 32 (m + 1)
  rw [BitVec.xor_allOnes, BitVec.neg_eq_not_add]
  apply BitVec.eq_of_toNat_eq
  rw [BitVec.toNat_add, BitVec.toNat_not, BitVec.toNat_not, BitVec.toNat_ofNat, BitVec.toNat_ofNat]
  have : (1#32).toNat = 1 := rfl
  rw [this]
  omega
theorem put_11 (tr : (Nat → Int32) × Int32) (ro : Int32) {w m : Nat} (hw : w < 2 ^ 31) (hm : m ≤ 2560) : ∀ (k fuel t n nd t' n' : Nat) (z : (Nat → Int32) × Int32), k < fuel → k < 31 → nd < 256 → simT z t n → loopN w m k t n nd = some (t', n') → simT (l_Tree_put_11 tr ro (nI w) (nI m) fuel z (nI nd) (nI k)) t' n' := by
  intro k
  induction k with
  | zero =>
    intro fuel t n nd t' n' z hf hk hnd hs hl
    obtain ⟨f, rfl⟩ : ∃ f, fuel = f + 1 := ⟨fuel - 1, by omega⟩
    simp only [l_Tree_put_11]
    unfold loopN at hl
    by_cases h0 : gT t (2 * nd + w % 2) = 0
    · rw [if_pos h0] at hl
      cases hl
      rw [if_pos (by decide), nI_and1 hw, nI_not hm]
      exact set_f hs hnd (Nat.mod_lt _ (by decide)) (by omega) h0
    · rw [if_neg h0] at hl; cases hl
  | succ k ih =>
    intro fuel t n nd t' n' z hf hk hnd hs hl
    obtain ⟨f, rfl⟩ : ∃ f, fuel = f + 1 := ⟨fuel - 1, by omega⟩
    have hd : w / 2 ^ (k + 1) < 2 ^ 31 := Nat.lt_of_le_of_lt (Nat.div_le_self _ _) hw
    have hb2 : w / 2 ^ (k + 1) % 2 < 2 := Nat.mod_lt _ (by decide)
    simp only [l_Tree_put_11]
    rw [if_neg (nI_nle (by omega) (by omega)), nI_shr hw (by omega), nI_and1 hd, show nI (k + 1) + (-1) = nI k from pk_m1 k]
    obtain ⟨b, hb⟩ : ∃ b, b = w / 2 ^ (k + 1) % 2 := ⟨_, rfl⟩
    unfold loopN at hl
    rw [← hb] at hl hb2 ⊢
    have hfo := follow_f hs hnd hb2
    by_cases h0 : gT t (2 * nd + b) = 0
    · rw [if_pos h0] at hl
      by_cases hn : n < 256
      · rw [if_pos hn] at hl
        have hset : simT (f_Tree_set z (nI nd) (nI b) z.2) (t + n * 65536 ^ (2 * nd + b)) n := by
          rw [hs.2.1, ← dT_s (show n < 32768 by omega)]
          exact set_f hs hnd hb2 (by omega) h0
        have hgrow : f_Tree_grow z (nI nd) (nI b) = (nI n, ((f_Tree_set z (nI nd) (nI b) z.2).1, nI (n + 1))) := by
          unfold f_Tree_grow
          rw [hfo, h0]
          dsimp only
          rw [if_pos (show dT 0 = 0 by decide), if_neg (show ¬ (256 : Int32) ≤ z.2 by rw [hs.2.1]; exact nI_ge (b := 256) hn (by omega)), hset.2.1, nI_1]
          have h9 : simT ((f_Tree_set z (nI nd) (nI b) z.2).1, nI (n + 1)) (t + n * 65536 ^ (2 * nd + b)) (n + 1) := ⟨hset.1, rfl, by omega⟩
          rw [follow_f h9 hnd hb2, gT_set h0 (by omega), if_pos rfl, dT_s (by omega)]
        rw [hgrow]
        exact ih f _ (n + 1) n t' n' _ (by omega) (by omega) hn ⟨hset.1, rfl, by omega⟩ hl
      · rw [if_neg hn] at hl; cases hl
    · rw [if_neg h0] at hl
      by_cases hv : gT t (2 * nd + b) < 256
      · rw [if_pos hv] at hl
        have hgrow : f_Tree_grow z (nI nd) (nI b) = (nI (gT t (2 * nd + b)), z) := by
          unfold f_Tree_grow
          rw [hfo, dT_s (by omega)]
          dsimp only
          rw [if_neg (nI_ne0 (by omega) (by omega))]
        rw [hgrow]
        exact ih f t n _ t' n' z (by omega) (by omega) hv hs hl
      · rw [if_neg hv] at hl; cases hl
def putN (q : Nat × Nat × Nat) (s : Nat × Nat) : Option (Nat × Nat) := loopN q.2.1 q.2.2 (q.2.1.log2 - 1) s.1 s.2 q.1
def okq (q : Nat × Nat × Nat) : Bool := decide (q.1 < 256) && (decide (2 ≤ q.2.1) && (decide (q.2.1 < 16384) && decide (q.2.2 ≤ 2560)))
abbrev putI (z : (Nat → Int32) × Int32) (q : Nat × Nat × Nat) : (Nat → Int32) × Int32 := f_Tree_put z (nI q.1) (nI q.2.1) (nI q.2.2)
theorem putI_f {z : (Nat → Int32) × Int32} {t n t' n' : Nat} {q : Nat × Nat × Nat} (hq : okq q = true) (hs : simT z t n) (h : putN q (t, n) = some (t', n')) : simT (putI z q) t' n' := by
  unfold okq at hq
  simp only [Bool.and_eq_true, decide_eq_true_eq] at hq
  obtain ⟨h1, h2, h3, h4⟩ := hq
  unfold putI f_Tree_put
  dsimp only
  obtain ⟨L, hL, q1, q2⟩ := log2_le h3 (by omega)
  have hlog : q.2.1.log2 = L := log2_of q1 q2
  have hL1 : 1 ≤ L := by
    rcases Nat.eq_zero_or_pos L with e | e
    · subst e; omega
    · exact e
  have e1 : nI L - 1 = nI (L - 1) := by
    have := nI_pred (L - 1)
    rwa [show L - 1 + 1 = L by omega] at this
  rw [len_f (by omega) (by omega), hlog, e1]
  unfold putN at h
  rw [hlog] at h
  exact put_11 z (nI q.1) (by omega) h4 (L - 1) _ t n q.1 t' n' z (by rw [nI_toInt (by omega)]; omega) (by omega) h1 hs h
def foldN : List (Nat × Nat × Nat) → Nat × Nat → Option (Nat × Nat)
  | [], s => some s
  | q :: l, s => (putN q s).bind (foldN l)
theorem fold_f : ∀ (l : List (Nat × Nat × Nat)) (z : (Nat → Int32) × Int32) (t n t' n' : Nat), l.all okq = true → simT z t n → foldN l (t, n) = some (t', n') → simT (l.foldl putI z) t' n' := by
  intro l
  induction l with
  | nil => intro z t n t' n' _ hs h; cases h; exact hs
  | cons q l ih =>
    intro z t n t' n' hq hs h
    rw [List.all_cons, Bool.and_eq_true] at hq
    unfold foldN at h
    cases hp : putN q (t, n) with
    | none => rw [hp] at h; cases h
    | some r =>
      obtain ⟨t1, n1⟩ := r
      rw [hp] at h
      exact ih _ t1 n1 t' n' hq.2 (putI_f hq.1 hs hp) h
theorem foldN_app : ∀ (l k : List (Nat × Nat × Nat)) (s : Nat × Nat), foldN (l ++ k) s = (foldN l s).bind (foldN k) := by
  intro l
  induction l with
  | nil => intro k s; rfl
  | cons q l ih =>
    intro k s
    show (putN q s).bind (foldN (l ++ k)) = ((putN q s).bind (foldN l)).bind (foldN k)
    cases putN q s with
    | none => rfl
    | some r => exact ih k r
/-- the words in the order in which they are put -/
def s20 (k : Nat) : List (Nat × Nat × Nat) := [(0, (tSt k).toNatClampNeg, k), (1, (tSt k).toNatClampNeg, k)]
def s78 (k : Nat) : List (Nat × Nat × Nat) := [(3, rstN k false, k), (4, rstN k true, k)]
def bl4 (k : Nat) (bk : Bool) : Nat := if k = 40 then 4127 else blkN k bk
def s115 (k : Nat) : List (Nat × Nat × Nat) := [(3, bl4 k false, 64 * k), (4, bl4 k true, 64 * k)]
def rgF (s : Nat → List (Nat × Nat × Nat)) : Nat → Nat → List (Nat × Nat × Nat)
  | _, 0 => []
  | k, m + 1 => s k ++ rgF s (k + 1) m
theorem fl_2 (z : (Nat → Int32) × Int32) (q r : Nat × Nat × Nat) (l : List (Nat × Nat × Nat)) : ([q, r] ++ l).foldl putI z = l.foldl putI (putI (putI z q) r) := by
  simp only [List.foldl_append, List.foldl_cons, List.foldl_nil]
theorem i115 (r1 : ((Nat → Int32) × Int32) → Int32 → (Nat → Int32) × Int32) (r2 : ((Nat → Int32) × Int32) → Int32 → (Nat → Int32) × Int32) : ∀ (m fuel k : Nat) (z : (Nat → Int32) × Int32), m + k = 41 → 0 < k → m < fuel → l_Tree_init_115 r1 r2 fuel z (nI (64 * k)) = (rgF s115 k m).foldl putI z := by
  intro m
  induction m with
  | zero =>
    intro fuel k z hk h0 hf
    obtain ⟨f, rfl⟩ : ∃ f, fuel = f + 1 := ⟨fuel - 1, by omega⟩
    simp only [l_Tree_init_115]
    rw [if_pos (show (2560 : Int32) < nI (64 * k) from nI_lt (a := 2560) (by omega) (by omega))]
    rfl
  | succ m ih =>
    intro fuel k z hk h0 hf
    obtain ⟨f, rfl⟩ : ∃ f, fuel = f + 1 := ⟨fuel - 1, by omega⟩
    obtain ⟨q1, q2, -⟩ := blk2a k (by omega) h0
    simp only [l_Tree_init_115]
    rw [if_neg (show ¬ (2560 : Int32) < nI (64 * k) from nI_nlt (a := 2560) (by omega) (by omega)), q1, q2, show nI (64 * k) + 64 = nI (64 * (k + 1)) from nI_add (64 * k) 64, ih f (k + 1) _ (by omega) (by omega) (by omega)]
    exact (fl_2 z (3, bl4 k false, 64 * k) (4, bl4 k true, 64 * k) (rgF s115 (k + 1) m)).symm
theorem i78 (r1 : ((Nat → Int32) × Int32) → Int32 → (Nat → Int32) × Int32) : ∀ (m fuel k : Nat) (z : (Nat → Int32) × Int32), m + k = 64 → m < fuel → l_Tree_init_78 r1 fuel z (nI k) = (rgF s78 k m ++ rgF s115 1 40).foldl putI z := by
  intro m
  induction m with
  | zero =>
    intro fuel k z hk hf
    obtain ⟨f, rfl⟩ : ∃ f, fuel = f + 1 := ⟨fuel - 1, by omega⟩
    simp only [l_Tree_init_78]
    rw [if_pos (show (64 : Int32) ≤ nI k from nI_le (a := 64) (by omega) (by omega))]
    exact i115 r1 _ 40 _ 1 z (by decide) (by decide) (by decide)
  | succ m ih =>
    intro fuel k z hk hf
    obtain ⟨f, rfl⟩ : ∃ f, fuel = f + 1 := ⟨fuel - 1, by omega⟩
    obtain ⟨q1, q2, -⟩ := rst2 k (by omega)
    simp only [l_Tree_init_78]
    rw [if_neg (show ¬ (64 : Int32) ≤ nI k from nI_ge (b := 64) (by omega) (by omega)), q1, q2, nI_1, ih f (k + 1) _ (by omega) (by omega)]
    exact (fl_2 z (3, rstN k false, k) (4, rstN k true, k) (rgF s78 (k + 1) m ++ rgF s115 1 40)).symm
theorem st_k : ∀ k, k < 9 → f_Words_step (nI k) = nI (tSt k).toNatClampNeg := by decide +kernel
theorem i20 : ∀ (m fuel k : Nat) (z : (Nat → Int32) × Int32), m + k = 9 → m < fuel → l_Tree_init_20 fuel z (nI k) = (rgF s20 k m ++ ([(1, 4097, 9), (2, 4097, 9)] ++ (rgF s78 0 64 ++ rgF s115 1 40))).foldl putI z := by
  intro m
  induction m with
  | zero =>
    intro fuel k z hk hf
    obtain ⟨f, rfl⟩ : ∃ f, fuel = f + 1 := ⟨fuel - 1, by omega⟩
    simp only [l_Tree_init_20]
    rw [if_pos (show (9 : Int32) ≤ nI k from nI_le (a := 9) (by omega) (by omega)), st_9]
    refine (i78 _ 64 _ 0 _ (by decide) (by decide)).trans ?_
    exact (fl_2 z (1, 4097, 9) (2, 4097, 9) (rgF s78 0 64 ++ rgF s115 1 40)).symm
  | succ m ih =>
    intro fuel k z hk hf
    obtain ⟨f, rfl⟩ : ∃ f, fuel = f + 1 := ⟨fuel - 1, by omega⟩
    simp only [l_Tree_init_20]
    rw [if_neg (show ¬ (9 : Int32) ≤ nI k from nI_ge (b := 9) (by omega) (by omega)), st_k k (by omega), nI_1, ih f (k + 1) _ (by omega) (by omega)]
    exact (fl_2 z (0, (tSt k).toNatClampNeg, k) (1, (tSt k).toNatClampNeg, k) (rgF s20 (k + 1) m ++ ([(1, 4097, 9), (2, 4097, 9)] ++ (rgF s78 0 64 ++ rgF s115 1 40)))).symm
def allW : List (Nat × Nat × Nat) := rgF s20 0 9 ++ ([(1, 4097, 9), (2, 4097, 9)] ++ (rgF s78 0 64 ++ rgF s115 1 40))
theorem ti_f : f_Tree_init = allW.foldl putI (fun _ => 0, 5) := i20 9 _ 0 _ (by decide) (by decide)
/-! the tree's number, and what it says: behind each node stand the words that begin so -/
def TN : Nat := 26601187448537464205419490048017608780803492915583231503153354566928718494377086597624694643857117149663624080982314815085370675676818351287654680817717183696486887754352608783379292053885124745477057114861346271217763256069240577401939035654063353453940985792800965185346323832133873029855469741649152199196146856471416357720502437057790232760081928395229434206390816434021647974724026974323530257350870859063603146576755627936112202628801935636100061907665612377885239051315500051792238625483738737507414354688761708638339013481887354762670688848239287925576363685900379199728324184335397165270981781066804610314687157536747340769836479166691998816696329956462966536771361497102218264173152362173700539490128681273786797275485737275600147794605546483518660736919074327092731095629082396046184099643531958575363139111434469147267672444535963079664686032382213480872113281409765852962397044133520037876903155670001209715687657730424635881564937737667140734740809214143476421898873229222997289295032912352632949912336745942410405863820739984961755843270686388097033751671698022451856348714994472028160106669848362706118201965210037291776717658730532546199176606393333735022725573251490024331985499381006277657856694306140741547953697373376126457663037362782529372520808847948157915955630488383111719935004899841627335494322006224863872035008203987869678582922582494498808276226242232190003745430590146868453608010408698877839094116208682522856380406794259493253301497633436385420211697286839942833780287928486815856718842888503201333118896872355061070219685108247891317512972767398930928479582529216006117162697447991191677975332395116175243466191568104389668006214806228862833117457186007014522226022702823646988318006020784564497655185734177306087160396374544333716996352788336035700463015882042908596987135329272494327176276900256032005887543393273739603319614768123199208598370647004771379357206037580315153108835406055273512368535772478677069830986924333950282929071255936161882521805981287455261565321567372558124473089885335525661410975858025377331573525247400365254254796129960166744834826888889089825908636004105713779465585185736591193890883035217178932206195944835379021857875170364740163597434327514461227704060717060234937385844307362742218607316171441103485045625491738745677016394747589650043998100491604813351883875572317000164733353989
theorem tn_f : foldN allW (0, 5) = some (TN, 244) := by decide +kernel
theorem tr_s : simT f_Tree_init TN 244 := by
  rw [ti_f]
  exact fold_f allW _ 0 5 TN 244 (by decide +kernel) ⟨fun j _ => by unfold gT; rw [Nat.zero_div]; rfl, rfl, by decide⟩ tn_f
/-- v's bits begin w's -/
def preQ (v w : Nat) : Bool := decide (v.log2 ≤ w.log2) && (w / 2 ^ (w.log2 - v.log2) == v)
def mn1 (wt : Nat → Nat) (mg : Nat → Int) (v : Nat) : Nat → Int
  | 0 => -1
  | k + 1 => if wt k = v then mg k else mn1 wt mg v k
def pr1 (wt : Nat → Nat) (v : Nat) : Nat → Bool
  | 0 => false
  | k + 1 => preQ v (wt k) || pr1 wt v k
def tSN (k : Nat) : Nat := (tSt k).toNatClampNeg
/-- the meaning of the word v at a root: -1 if it is none -/
def mnR (r v : Nat) : Int :=
  if r = 0 then mn1 tSN (fun k => k) v 9 else if r = 1 then mn1 tSN (fun k => k) v 10 else if r = 2 then (if v = 4097 then 9 else -1)
  else if 0 ≤ mn1 (fun k => rstN k (r == 4)) (fun k => k) v 64 then mn1 (fun k => rstN k (r == 4)) (fun k => k) v 64 else mn1 (fun k => bl4 (k + 1) (r == 4)) (fun k => 64 * (k + 1)) v 40
def prR (r v : Nat) : Bool :=
  if r = 0 then pr1 tSN v 9 else if r = 1 then pr1 tSN v 10 else if r = 2 then preQ v 4097
  else pr1 (fun k => rstN k (r == 4)) v 64 || pr1 (fun k => bl4 (k + 1) (r == 4)) v 40
/-- what stands at a node is what the words say -/
def chk : Nat → Nat → Nat → Nat → Bool
  | 0, _, _, _ => false
  | f + 1, r, nd, v => (List.range 2).all fun b =>
      if 0 ≤ mnR r (2 * v + b) then gT TN (2 * nd + b) == 65535 - (mnR r (2 * v + b)).toNat && decide (mnR r (2 * v + b) ≤ 2560)
      else if prR r (2 * v + b) then decide (0 < gT TN (2 * nd + b)) && (decide (gT TN (2 * nd + b) < 256) && chk f r (gT TN (2 * nd + b)) (2 * v + b)) else gT TN (2 * nd + b) == 0

theorem chk_0 : chk 14 0 0 1 = true := by decide +kernel
theorem chk_1 : chk 14 1 1 1 = true := by decide +kernel
theorem chk_2 : chk 14 2 2 1 = true := by decide +kernel
theorem chk_3 : chk 14 3 3 1 = true := by decide +kernel
theorem chk_4 : chk 14 4 4 1 = true := by decide +kernel
/-! a word read bit by bit -/
def rdW (r : Nat) (bit : Nat → Bool) (E : Nat) : Nat → Nat → Nat → Int × Nat
  | 0, _, i => (-1, i)
  | f + 1, v, i => if E ≤ i then (-1, i) else if 0 ≤ mnR r (2 * v + (bit i).toNat) then (mnR r (2 * v + (bit i).toNat), i + 1) else if prR r (2 * v + (bit i).toNat) then rdW r bit E f (2 * v + (bit i).toNat) (i + 1) else (-2, i + 1)
theorem bit_f {f : Nat → Int64} {c i : Nat} (hi : i < 524288) : f_Bits_bit (f, nI c) (nI i) = nI (gb f i).toNat := by
  unfold f_Bits_bit
  rw [shr6 (by omega)]
  dsimp only
  rw [if_neg (nI_pos (by omega)), if_pos (nI_lt (by omega) (by omega)), nI_clamp (by omega), and63 (by omega), show (63 : Int32) - nI (i % 64) = nI (63 - i % 64) from pk_sub (a := 63) (by omega)]
  apply Int32.toBitVec_inj.mp
  apply BitVec.eq_of_getLsbD_eq
  intro j hj
  rw [Int32.toBitVec_and, BitVec.getLsbD_and, Int64.toBitVec_toInt32, BitVec.getLsbD_signExtend, decide_eq_true hj, if_pos (show j < 64 by omega), su_b _ (by omega)]
  have e1 : ∀ j, j < 32 → (1 : Int32).toBitVec.getLsbD j = decide (j = 0) := by decide
  rw [e1 j hj]
  show _ = (BitVec.ofNat 32 (gb f i).toNat).getLsbD j
  rw [BitVec.getLsbD_ofNat, decide_eq_true hj]
  by_cases h0 : j = 0
  · subst h0
    rw [Nat.add_zero]
    show (true && gb f i && decide (0 = 0)) = (true && (gb f i).toNat.testBit 0)
    cases gb f i <;> rfl
  · rw [decide_eq_false h0]
    have : (gb f i).toNat.testBit j = false := Nat.testBit_lt_two_pow (Nat.lt_of_lt_of_le (show (gb f i).toNat < 2 ^ 1 by cases gb f i <;> decide) (Nat.pow_le_pow_right (by decide) (by omega)))
    rw [this]; simp
theorem mbit_k : ∀ k, k < 8 → ((nI k &&& 31).toBitVec.smod 32).toNat = k := by decide +kernel
theorem mbit_f {inp : Nat → Int32} {i : Nat} (hi : i < 524288) : f_Model_bit inp (nI i) = nI (bb (inp (i / 8)) (7 - i % 8)).toNat := by
  unfold f_Model_bit
  have er : nI i - nI i / 8 * 8 = nI (i % 8) := pk_rem (d := 8) (by omega) (by decide) (by decide)
  have ed : nI i / 8 = nI (i / 8) := pk_div (d := 8) (by omega) (by decide) (by decide)
  rw [er, ed, nI_clamp (by omega), show (7 : Int32) - nI (i % 8) = nI (7 - i % 8) from pk_sub (a := 7) (by omega)]
  apply Int32.toBitVec_inj.mp
  apply BitVec.eq_of_getLsbD_eq
  intro j hj
  have e1 : ∀ j, j < 32 → (1 : Int32).toBitVec.getLsbD j = decide (j = 0) := by decide
  rw [Int32.toBitVec_and, BitVec.getLsbD_and, e1 j hj]
  show _ = (BitVec.ofNat 32 (bb (inp (i / 8)) (7 - i % 8)).toNat).getLsbD j
  rw [BitVec.getLsbD_ofNat, decide_eq_true hj]
  by_cases h0 : j = 0
  · subst h0
    rw [Int32.toBitVec_shiftRight]
    have hk : ((nI (7 - i % 8) &&& 31).toBitVec.smod 32).toNat = 7 - i % 8 := mbit_k _ (by omega)
    rw [BitVec.sshiftRight_eq', hk, BitVec.getLsbD_sshiftRight]
    have : ((inp (i / 8)).toBitVec.getLsbD (7 - i % 8)) = bb (inp (i / 8)) (7 - i % 8) := rfl
    have h32 : ¬ 32 ≤ 0 := by omega
    have h33 : 7 - i % 8 + 0 < 32 := by omega
    rw [if_pos h33, Nat.add_zero, this]
    cases bb (inp (i / 8)) (7 - i % 8) <;> rfl
  · rw [decide_eq_false h0]
    have : (bb (inp (i / 8)) (7 - i % 8)).toNat.testBit j = false := Nat.testBit_lt_two_pow (Nat.lt_of_lt_of_le (show (bb (inp (i / 8)) (7 - i % 8)).toNat < 2 ^ 1 by cases bb (inp (i / 8)) (7 - i % 8) <;> decide) (Nat.pow_le_pow_right (by decide) (by omega)))
    rw [this]; simp
theorem bt_2 (b : Bool) : b.toNat < 2 := by cases b <;> decide
theorem dT_n {m : Nat} (hm : m ≤ 2560) : dT (65535 - m) = nI m ^^^ (-1) := (nI_not hm).symm
/-- the answer of a reading as an int -/
def iI (z : Int) : Int32 := Int32.ofInt z
theorem iI_n (n : Nat) : iI (n : Int) = nI n := by
  unfold iI nI
  exact Int32.ofInt_eq_ofNat
theorem take_15 {f : Nat → Int64} {E : Nat} (hE : E ≤ 524288) {tr : (Nat → Int32) × Int32} {n : Nat} (hs : simT tr TN n) (rd : Int32 × Int32) (x : Int32) (r : Nat) (z : Int32 × Int32) : ∀ (m fuel f2 f3 nd v i : Nat), m + i = E → m < fuel → m < f2 → chk f3 r nd v = true → nd < 256 → ∀ q, rdW r (gb f) E f2 v i = q →
    l_Reader_take_15 (f, nI E) tr rd x fuel (nI nd) (nI i) z = (iI q.1, if 0 ≤ q.1 then (nI q.2, z.2) else z) ∧ q.2 ≤ E ∧ (q.1 < 0 → q.1 = -1 ∨ q.1 = -2) ∧ (0 ≤ q.1 → i < q.2 ∧ q.1 ≤ 2560) := by
  intro m
  induction m with
  | zero =>
    intro fuel f2 f3 nd v i hm hf h2 hc hn q hq
    obtain ⟨g, rfl⟩ : ∃ g, fuel = g + 1 := ⟨fuel - 1, by omega⟩
    obtain ⟨g2, rfl⟩ : ∃ g, f2 = g + 1 := ⟨f2 - 1, by omega⟩
    simp only [rdW] at hq
    rw [if_pos (show E ≤ i by omega)] at hq
    subst hq
    simp only [l_Reader_take_15]
    rw [if_pos (nI_le (by omega) (by omega))]
    exact ⟨rfl, by omega, by simp, by simp⟩
  | succ m ih =>
    intro fuel f2 f3 nd v i hm hf h2 hc hn q hq
    obtain ⟨g, rfl⟩ : ∃ g, fuel = g + 1 := ⟨fuel - 1, by omega⟩
    obtain ⟨g2, rfl⟩ : ∃ g, f2 = g + 1 := ⟨f2 - 1, by omega⟩
    cases f3 with
    | zero => cases hc
    | succ f3 =>
      obtain ⟨b, hb⟩ : ∃ b, b = (gb f i).toNat := ⟨_, rfl⟩
      have hb2 : b < 2 := by rw [hb]; exact bt_2 _
      have hcb := List.all_eq_true.mp hc b (List.mem_range.mpr hb2)
      have hfo := follow_f hs hn hb2
      simp only [rdW] at hq
      rw [if_neg (show ¬ E ≤ i by omega), ← hb] at hq
      simp only [l_Reader_take_15]
      rw [if_neg (nI_ge (by omega) (by omega)), bit_f (by omega), ← hb, hfo, nI_1]
      unfold f_Tree_isWord f_Tree_meaning
      by_cases h0 : 0 ≤ mnR r (2 * v + b)
      · rw [if_pos h0] at hcb hq
        subst hq
        rw [Bool.and_eq_true, beq_iff_eq, decide_eq_true_eq] at hcb
        obtain ⟨hc1, hc2⟩ := hcb
        obtain ⟨μ, hμ⟩ : ∃ μ : Nat, mnR r (2 * v + b) = μ := ⟨(mnR r (2 * v + b)).toNat, by omega⟩
        have hle : μ ≤ 2560 := by omega
        have hneg : ¬ (0 : Int32) ≤ dT (65535 - μ) := by
          unfold dT
          rw [if_neg (by omega), ti_le, ti_0, show 65536 - (65535 - μ) = μ + 1 by omega, Int32.toInt_neg, nI_toInt (by omega)]
          rw [Int.bmod_eq_of_le_mul_two (by omega) (by omega)]
          omega
        rw [hμ, Int.toNat_natCast] at hc1
        rw [hc1, if_neg hneg, if_neg (show ¬ (1 : Int32) = 0 by decide), dT_n hle]
        refine ⟨?_, by omega, fun h => absurd h (by omega), fun _ => ⟨Nat.lt_succ_self _, by dsimp only; omega⟩⟩
        have : nI μ ^^^ (-1) ^^^ (-1) = nI μ := by rw [Int32.xor_assoc, show (-1 : Int32) ^^^ (-1) = 0 by decide, Int32.xor_zero]
        rw [this]
        dsimp only
        rw [if_pos h0, hμ, iI_n]
      · rw [if_neg h0] at hcb hq
        by_cases hp : prR r (2 * v + b) = true
        · rw [if_pos hp] at hcb hq
          simp only [Bool.and_eq_true, decide_eq_true_eq] at hcb
          obtain ⟨c1, c2, c3⟩ := hcb
          rw [dT_s (by omega), if_pos (nI_pos' (by omega)), if_pos (show (0 : Int32) = 0 from rfl), if_neg (nI_ne0 c1 (by omega))]
          obtain ⟨k1, k2, k3, k4⟩ := ih g g2 f3 _ (2 * v + b) (i + 1) (by omega) (by omega) (by omega) c3 c2 q hq
          exact ⟨k1, k2, k3, fun h => ⟨by have := (k4 h).1; omega, (k4 h).2⟩⟩
        · rw [if_neg hp] at hcb hq
          subst hq
          have hz : gT TN (2 * nd + b) = 0 := beq_iff_eq.mp hcb
          rw [hz, if_pos (show (0 : Int32) ≤ dT 0 by decide), if_pos (show (0 : Int32) = 0 from rfl), if_pos (show dT 0 = 0 by decide)]
          exact ⟨rfl, by dsimp only; omega, by simp, by simp⟩
theorem chk_r : ∀ r, r < 5 → chk 14 r r 1 = true := by
  intro r hr
  rcases (show r = 0 ∨ r = 1 ∨ r = 2 ∨ r = 3 ∨ r = 4 by omega) with rfl | rfl | rfl | rfl | rfl
  · exact chk_0
  · exact chk_1
  · exact chk_2
  · exact chk_3
  · exact chk_4
/-- a word read from p on -/
def rdF (r : Nat) (bit : Nat → Bool) (E p : Nat) : Int × Nat := rdW r bit E (E - p + 1) 1 p
theorem take_f {f : Nat → Int64} {E : Nat} (hE : E ≤ 524288) {r p : Nat} (hr : r < 5) (hp : p ≤ E) (y : Int32) {q : Int × Nat} (hq : rdF r (gb f) E p = q) :
    f_Reader_take (f, nI E) f_Tree_init (nI p, y) (nI r) = (iI q.1, if 0 ≤ q.1 then (nI q.2, nI p) else (nI p, nI p)) ∧ q.2 ≤ E ∧ (q.1 < 0 → q.1 = -1 ∨ q.1 = -2) ∧ (0 ≤ q.1 → p < q.2 ∧ q.1 ≤ 2560) := by
  unfold f_Reader_take
  dsimp only
  rw [nI_toInt (by omega), nI_toInt (by omega), show ((E : Int) - (p : Int)).toNat = E - p by omega]
  exact take_15 hE tr_s (nI p, y) (nI r) r (nI p, nI p) (E - p) _ _ 14 r 1 p (by omega) (by omega) (by omega) (chk_r r hr) (by omega) q hq
/-! the reference's searches say what the words say -/
theorem log2_half {w : Nat} (h : 2 ≤ w) : (w / 2).log2 + 1 = w.log2 := by
  have h0 : w ≠ 0 := by omega
  have h1 : w / 2 ≠ 0 := by omega
  have a := Nat.log2_self_le h0
  have b := Nat.lt_log2_self (n := w)
  have hL : 1 ≤ w.log2 := (Nat.le_log2 h0).mpr (by omega)
  obtain ⟨L, hL2⟩ : ∃ L, w.log2 = L + 1 := ⟨w.log2 - 1, by omega⟩
  rw [hL2] at a b ⊢
  rw [log2_of (m := w / 2) (L := L) (by rw [Nat.pow_succ] at a; omega) (by rw [Nat.pow_succ] at b; omega)]
theorem preQ_self {v : Nat} : preQ v v = true := by
  unfold preQ
  rw [decide_eq_true (Nat.le_refl _), Nat.sub_self, Nat.pow_zero, Nat.div_one, beq_self_eq_true]; rfl
theorem preQ_s {v : Nat} (hv : 1 ≤ v) : ∀ (f w : Nat), w < f → 1 ≤ w → (sdn f w v == v) = preQ v w := by
  intro f
  induction f with
  | zero => intro w h; omega
  | succ f ih =>
    intro w hw h1
    have hv0 : v ≠ 0 := by omega
    have hw0 : w ≠ 0 := by omega
    unfold sdn
    by_cases hle : w ≤ v
    · rw [if_pos hle]
      by_cases he : w = v
      · rw [he, preQ_self, beq_self_eq_true]
      · have : (w == v) = false := beq_eq_false_iff_ne.mpr he
        rw [this]
        unfold preQ
        by_cases hl : v.log2 ≤ w.log2
        · have hl2 : w.log2 ≤ v.log2 := (Nat.le_log2 hv0).mpr (Nat.le_trans (Nat.log2_self_le hw0) hle)
          rw [show w.log2 - v.log2 = 0 by omega, Nat.pow_zero, Nat.div_one, this]; simp
        · rw [decide_eq_false hl]; rfl
    · rw [if_neg hle, ih (w / 2) (by omega) (by omega)]
      have hh := log2_half (show 2 ≤ w by omega)
      unfold preQ
      by_cases hl : v.log2 ≤ (w / 2).log2
      · rw [decide_eq_true hl, decide_eq_true (show v.log2 ≤ w.log2 by omega), show w.log2 - v.log2 = 1 + ((w / 2).log2 - v.log2) by omega, Nat.pow_add, ← Nat.div_div_eq_div_mul, Nat.pow_one]
      · rw [decide_eq_false hl]
        by_cases hl3 : v.log2 ≤ w.log2
        · rw [decide_eq_true hl3, show w.log2 - v.log2 = 0 by omega, Nat.pow_zero, Nat.div_one, show (w == v) = false from beq_eq_false_iff_ne.mpr (by omega)]; rfl
        · rw [decide_eq_false hl3]; rfl
theorem isPre_Q {v w : Nat} (hv : 1 ≤ v) (hw : 1 ≤ w) : isPre v w = preQ v w := preQ_s hv (w + 1) w (by omega) hw
theorem anyP_pr (wt : Nat → Nat) (P : Nat → Bool) (v : Nat) : ∀ M, (∀ k, k < M → P k = preQ v (wt k)) → anyP P M 0 = pr1 wt v M := by
  have h : ∀ M k, anyP P (M + 1) k = (anyP P M k || P (k + M)) := by
    intro M
    induction M with
    | zero => intro k; show (P k || false) = (false || P (k + 0)); rw [Nat.add_zero]; cases P k <;> rfl
    | succ M ih => intro k; show (P k || anyP P (M + 1) (k + 1)) = ((P k || anyP P M (k + 1)) || P (k + (M + 1))); rw [ih (k + 1), Bool.or_assoc, show k + 1 + M = k + (M + 1) by omega]
  intro M
  induction M with
  | zero => intro _; rfl
  | succ M ih =>
    intro hP
    rw [h M 0, ih (fun k hk => hP k (by omega)), Nat.zero_add, hP M (by omega)]
    show _ = (preQ v (wt M) || pr1 wt v M)
    rw [Bool.or_comm]
theorem plc_mn (of : Nat → Int32) (wt : Nat → Nat) {v : Nat} (hv : v < 2 ^ 31) : ∀ M, (∀ k, k < M → of k = nI (wt k) ∧ wt k < 2 ^ 31) → plc of (nI v) M 0 (-1) = iI (mn1 wt (fun k => (k : Int)) v M) := by
  have h : ∀ M k q, plc of (nI v) (M + 1) k q = if of (k + M) = nI v then nI (k + M) else plc of (nI v) M k q := by
    intro M
    induction M with
    | zero => intro k q; show (if of k = nI v then nI k else q) = _; rfl
    | succ M ih => intro k q; show plc of (nI v) (M + 1) (k + 1) _ = _; rw [ih (k + 1), show k + 1 + M = k + (M + 1) by omega]; rfl
  intro M
  induction M with
  | zero => intro _; rfl
  | succ M ih =>
    intro hP
    rw [h M 0, Nat.zero_add, ih (fun k hk => hP k (by omega))]
    show _ = iI (if wt M = v then (M : Int) else mn1 wt (fun k => (k : Int)) v M)
    obtain ⟨e, hlt⟩ := hP M (by omega)
    by_cases hm : wt M = v
    · rw [if_pos hm, if_pos (by rw [e, hm]), iI_n]
    · rw [if_neg hm, if_neg (by rw [e]; exact fun h => hm ((nI_eq hlt hv).mp h))]
theorem mn1_in (wt : Nat → Nat) (mg : Nat → Int) (v : Nat) : ∀ M, mn1 wt mg v M = -1 ∨ ∃ k, k < M ∧ wt k = v ∧ mn1 wt mg v M = mg k := by
  intro M
  induction M with
  | zero => exact Or.inl rfl
  | succ M ih =>
    show (if wt M = v then mg M else mn1 wt mg v M) = -1 ∨ _
    by_cases h : wt M = v
    · exact Or.inr ⟨M, by omega, h, by show (if wt M = v then _ else _) = _; rw [if_pos h]⟩
    · rw [if_neg h]
      rcases ih with e | ⟨k, a, b, c⟩
      · exact Or.inl e
      · exact Or.inr ⟨k, by omega, b, by show (if wt M = v then _ else _) = _; rw [if_neg h]; exact c⟩
theorem mn1_of (wt : Nat → Nat) (mg : Nat → Int) (v : Nat) : ∀ M, (∀ k, k < M → wt k ≠ v) → mn1 wt mg v M = -1 := by
  intro M
  induction M with
  | zero => intro _; rfl
  | succ M ih =>
    intro h
    show (if wt M = v then mg M else mn1 wt mg v M) = -1
    rw [if_neg (h M (by omega))]
    exact ih (fun k hk => h k (by omega))
theorem mn1_ap (wt : Nat → Nat) (mg : Nat → Int) (v a : Nat) : ∀ b, (∀ k, 0 ≤ mg k) → mn1 wt mg v (a + b) = if 0 ≤ mn1 (fun k => wt (a + k)) (fun k => mg (a + k)) v b then mn1 (fun k => wt (a + k)) (fun k => mg (a + k)) v b else mn1 wt mg v a := by
  intro b hm
  induction b with
  | zero => show mn1 wt mg v a = if 0 ≤ (-1 : Int) then _ else _; rw [if_neg (by decide)]
  | succ b ih =>
    show (if wt (a + b) = v then mg (a + b) else mn1 wt mg v (a + b)) = if 0 ≤ (if wt (a + b) = v then mg (a + b) else mn1 (fun k => wt (a + k)) (fun k => mg (a + k)) v b) then _ else _
    by_cases h : wt (a + b) = v
    · rw [if_pos h, if_pos h, if_pos (hm _)]
      show mg (a + b) = if wt (a + b) = v then mg (a + b) else _
      rw [if_pos h]
    · rw [if_neg h, if_neg h, ih]
      by_cases h2 : 0 ≤ mn1 (fun k => wt (a + k)) (fun k => mg (a + k)) v b
      · rw [if_pos h2, if_pos h2]
        show _ = if wt (a + b) = v then _ else _
        rw [if_neg h]
      · rw [if_neg h2, if_neg h2]
/-- the reference's number of a step, by the class's -/
def sg (z : Int) : Int := if z < 0 then -1 else if z < 7 then z + 2 else if z = 7 then 0 else if z = 8 then 1 else z
theorem tS_v : tSN 0 = 130 ∧ tSN 1 = 66 ∧ tSN 2 = 10 ∧ tSN 3 = 3 ∧ tSN 4 = 11 ∧ tSN 5 = 67 ∧ tSN 6 = 131 ∧ tSN 7 = 17 ∧ tSN 8 = 9 ∧ tSN 9 = 4097 := by decide +kernel
theorem tM_v : moN 0 = 17 ∧ moN 1 = 9 ∧ moN 2 = 130 ∧ moN 3 = 66 ∧ moN 4 = 10 ∧ moN 5 = 3 ∧ moN 6 = 11 ∧ moN 7 = 67 ∧ moN 8 = 131 ∧ moN 9 = 4097 := by decide +kernel
theorem sg_k : ∀ k : Nat, k < 10 → moN (sg k).toNat = tSN k ∧ 0 ≤ sg k ∧ sg k < 10 ∧ (k < 9 → sg k < 9) := by decide +kernel
def sgi (j : Nat) : Nat := if j = 0 then 7 else if j = 1 then 8 else if j = 9 then 9 else j - 2
theorem sg_j0 : ∀ j : Nat, j < 10 → sgi j < 10 ∧ tSN (sgi j) = moN j ∧ sg (sgi j : Nat) = (j : Int) ∧ (j < 9 → sgi j < 9) := by decide +kernel
theorem sg_j (j : Nat) (h : j < 10) : ∃ k : Nat, k < 10 ∧ tSN k = moN j ∧ sg k = j ∧ (j < 9 → k < 9) := ⟨sgi j, sg_j0 j h⟩
theorem tS_inj : ∀ k, k < 10 → ∀ j, j < 10 → tSN k = tSN j → k = j := by decide +kernel
theorem tM_inj : ∀ k, k < 10 → ∀ j, j < 10 → moN k = moN j → k = j := by decide +kernel
theorem mo_mn {v M : Nat} (hM : M = 9 ∨ M = 10) : mn1 moN (fun k => (k : Int)) v M = sg (mn1 tSN (fun k => (k : Int)) v M) := by
  rcases mn1_in tSN (fun k => (k : Int)) v M with e | ⟨k, a, b, c⟩
  · rw [e]
    apply mn1_of
    intro j hj hv
    obtain ⟨k, k1, k2, k3, k4⟩ := sg_j j (by omega)
    rcases mn1_in tSN (fun k => (k : Int)) v M with e2 | ⟨q, q1, q2, q3⟩
    · have : ∀ M', k < M' → mn1 tSN (fun k => (k : Int)) v M' ≠ -1 := by
        intro M' hk
        induction M' with
        | zero => omega
        | succ M' ih =>
          show (if tSN M' = v then ((M' : Nat) : Int) else mn1 tSN (fun k => (k : Int)) v M') ≠ -1
          by_cases hq : tSN M' = v
          · rw [if_pos hq]; omega
          · rw [if_neg hq]
            apply ih
            rcases Nat.lt_or_ge k M' with h | h
            · exact h
            · have : k = M' := by omega
              subst this
              exact absurd (k2.trans hv) hq
      exact this M (by rcases hM with rfl | rfl <;> omega) e
    · rw [e] at q3; omega
  · rw [c]
    obtain ⟨s1, s2, s3, s4⟩ := sg_k k (by omega)
    have hlt : (sg k).toNat < M := by rcases hM with rfl | rfl <;> omega
    rcases mn1_in moN (fun k => (k : Int)) v M with e2 | ⟨q, q1, q2, q3⟩
    · exfalso
      have : ∀ M', (sg k).toNat < M' → mn1 moN (fun k => (k : Int)) v M' ≠ -1 := by
        intro M' hk
        induction M' with
        | zero => omega
        | succ M' ih =>
          show (if moN M' = v then ((M' : Nat) : Int) else mn1 moN (fun k => (k : Int)) v M') ≠ -1
          by_cases hq : moN M' = v
          · rw [if_pos hq]; omega
          · rw [if_neg hq]
            apply ih
            rcases Nat.lt_or_ge (sg k).toNat M' with h | h
            · exact h
            · have : (sg k).toNat = M' := by omega
              rw [← this] at hq
              exact absurd (s1.trans b) hq
      exact this M hlt e2
    · rw [q3]
      have : q = (sg k).toNat := tM_inj q (by omega) _ (by omega) (by rw [q2, s1, b])
      rw [this]; omega
theorem mo_pr {v M : Nat} (hM : M = 9 ∨ M = 10) : pr1 moN v M = pr1 tSN v M := by
  obtain ⟨a0, a1, a2, a3, a4, a5, a6, a7, a8, a9⟩ := tS_v
  obtain ⟨b0, b1, b2, b3, b4, b5, b6, b7, b8, b9⟩ := tM_v
  rcases hM with rfl | rfl <;> simp only [pr1] <;> rw [a0, a1, a2, a3, a4, a5, a6, a7, a8, b0, b1, b2, b3, b4, b5, b6, b7, b8]
  · generalize preQ v 17 = x0; generalize preQ v 9 = x1; generalize preQ v 130 = x2; generalize preQ v 66 = x3; generalize preQ v 10 = x4; generalize preQ v 3 = x5; generalize preQ v 11 = x6; generalize preQ v 67 = x7; generalize preQ v 131 = x8
    cases x0 <;> cases x1 <;> simp
  · rw [a9, b9]
    generalize preQ v 4097 = x9; generalize preQ v 17 = x0; generalize preQ v 9 = x1; generalize preQ v 130 = x2; generalize preQ v 66 = x3; generalize preQ v 10 = x4; generalize preQ v 3 = x5; generalize preQ v 11 = x6; generalize preQ v 67 = x7; generalize preQ v 131 = x8
    cases x0 <;> cases x1 <;> simp
/-- the steps -/
theorem pl_mo {v r M : Nat} (hv : v < 2 ^ 31) (hM : (r = 0 ∧ M = 9) ∨ (r = 1 ∧ M = 10)) : f_Model_placeOf tMo (nI M) (nI v) = iI (sg (mnR r v)) := by
  rw [pl_f tMo (by omega), plc_mn tMo moN hv M (fun k hk => ⟨(mo_w k (by omega)).1, by have := (mo_w k (by omega)).2.2.1; omega⟩), mo_mn (by omega)]
  rcases hM with ⟨rfl, rfl⟩ | ⟨rfl, rfl⟩ <;> rfl
theorem bg_mo {v r M : Nat} (hv1 : 1 ≤ v) (hv : v < 2 ^ 31) (hM : (r = 0 ∧ M = 9) ∨ (r = 1 ∧ M = 10)) : f_Model_begins tMo (nI M) (nI v) = bI (prR r v) := by
  rw [bg_f tMo (by omega) hv (fun k hk => by rw [(mo_w k (by omega)).1, nI_toInt (by have := (mo_w k (by omega)).2.2.1; omega)]; omega)]
  have : anyP (fun i => isPre v (tMo i).toNatClampNeg) M 0 = pr1 moN v M := anyP_pr moN _ v M (fun k hk => isPre_Q hv1 (by have := (mo_w k (by omega)).2.1; exact this))
  rw [this, mo_pr (by omega)]
  rcases hM with ⟨rfl, rfl⟩ | ⟨rfl, rfl⟩ <;> rfl
/-! the reference reads a word -/
theorem preQ_le {v w : Nat} (h : preQ v w = true) : v ≤ w := by
  unfold preQ at h
  rw [Bool.and_eq_true, beq_iff_eq] at h
  rw [← h.2]
  exact Nat.div_le_self _ _
theorem pr1_lt {wt : Nat → Nat} {v B : Nat} : ∀ M, (∀ k, k < M → wt k < B) → pr1 wt v M = true → v < B := by
  intro M
  induction M with
  | zero => intro _ h; cases h
  | succ M ih =>
    intro hB h
    have h' : (preQ v (wt M) || pr1 wt v M) = true := h
    rw [Bool.or_eq_true] at h'
    rcases h' with h1 | h1
    · have := preQ_le h1; have := hB M (by omega); omega
    · exact ih (fun k hk => hB k (by omega)) h1
theorem rstb (k : Nat) (hk : k < 64) (bk : Bool) : rstN k bk < 16384 := by
  have := rst2 k hk
  cases bk
  · exact this.2.2.2.2.1
  · exact this.2.2.2.2.2
theorem bl4b (k : Nat) (hk : k < 40) (bk : Bool) : bl4 (k + 1) bk < 16384 := by
  unfold bl4
  by_cases h : k + 1 = 40
  · rw [if_pos h]; decide
  · rw [if_neg h]
    have := blk2a (k + 1) (by omega) (by omega)
    cases bk
    · exact this.2.2.2.2.1
    · exact this.2.2.2.2.2
theorem prR_lt {r v : Nat} (h : prR r v = true) : v < 16384 := by
  have hs : ∀ k, k < 10 → tSN k < 16384 := by decide +kernel
  unfold prR at h
  by_cases h0 : r = 0
  · rw [if_pos h0] at h; exact pr1_lt 9 (fun k hk => hs k (by omega)) h
  · rw [if_neg h0] at h
    by_cases h1 : r = 1
    · rw [if_pos h1] at h; exact pr1_lt 10 hs h
    · rw [if_neg h1] at h
      by_cases h2 : r = 2
      · rw [if_pos h2] at h; have := preQ_le h; omega
      · rw [if_neg h2, Bool.or_eq_true] at h
        rcases h with h | h
        · exact pr1_lt 64 (fun k hk => rstb k hk _) h
        · exact pr1_lt 40 (fun k hk => bl4b k hk _) h
def ib (inp : Nat → Int32) (i : Nat) : Bool := bb (inp (i / 8)) (7 - i % 8)
theorem mo_ls {gv : Nat} (hg : gv ≤ 65536) {inp : Nat → Int32} {ps : Int32} {r M : Nat} (hM : (r = 0 ∧ M = 9) ∨ (r = 1 ∧ M = 10)) : ∀ (m fuel f2 v i : Nat), m + i = 8 * gv → m + 1 < fuel → m < f2 → 1 ≤ v → v < 16384 → ∀ q, rdW r (ib inp) (8 * gv) f2 v i = q →
    l_Model_mode_10 (nI gv) inp ps 1 (nI M) fuel (nI i) 1 (nI v) (-1) = if 0 ≤ q.1 then (iI (sg q.1), (nI q.2, 1)) else (-1, (ps, iI q.1)) := by
  have e8 : (8 : Int32) * nI gv = nI (8 * gv) := pk_mul 8 gv
  have hfault : ∀ (g : Nat) (p v2 : Int32) (k : Int32), (-k) ≤ 0 → l_Model_mode_10 (nI gv) inp ps 1 (nI M) (g + 1) (f_Model_fault p 1 k ps).1 (f_Model_fault p 1 k ps).2 v2 (-1) = (-1, (ps, -k)) := by
    intro g p v2 k hk
    simp only [l_Model_mode_10]
    rw [if_neg (show ¬ (0 : Int32) ≤ -1 by decide)]
    unfold f_Model_fault
    dsimp only
    rw [if_pos hk]
  intro m
  induction m with
  | zero =>
    intro fuel f2 v i hm hf h2 hv1 hv q hq
    obtain ⟨g, rfl⟩ : ∃ g, fuel = g + 2 := ⟨fuel - 2, by omega⟩
    obtain ⟨g2, rfl⟩ : ∃ g, f2 = g + 1 := ⟨f2 - 1, by omega⟩
    simp only [rdW] at hq
    rw [if_pos (show 8 * gv ≤ i by omega)] at hq
    subst hq
    rw [l_Model_mode_10, if_neg (show ¬ (0 : Int32) ≤ -1 by decide), if_neg (show ¬ (1 : Int32) ≤ 0 by decide), e8, if_pos (show nI i = nI (8 * gv) by rw [show i = 8 * gv by omega])]
    dsimp only
    rw [hfault g _ _ 1 (by decide), if_neg (show ¬ (0 : Int) ≤ -1 by decide)]
    rfl
  | succ m ih =>
    intro fuel f2 v i hm hf h2 hv1 hv q hq
    obtain ⟨g, rfl⟩ : ∃ g, fuel = g + 2 := ⟨fuel - 2, by omega⟩
    obtain ⟨g2, rfl⟩ : ∃ g, f2 = g + 1 := ⟨f2 - 1, by omega⟩
    obtain ⟨b, hb⟩ : ∃ b, b = (ib inp i).toNat := ⟨_, rfl⟩
    have hb2 : b < 2 := by rw [hb]; exact bt_2 _
    simp only [rdW] at hq
    rw [if_neg (show ¬ 8 * gv ≤ i by omega), ← hb] at hq
    have hbit : f_Model_bit inp (nI i) = nI b := by rw [mbit_f (by omega), hb]; rfl
    have e2 : (2 : Int32) * nI v + nI b = nI (2 * v + b) := ix2
    rw [l_Model_mode_10, if_neg (show ¬ (0 : Int32) ≤ -1 by decide), if_neg (show ¬ (1 : Int32) ≤ 0 by decide), e8, if_neg (fun e => by have := (nI_eq (by omega) (by omega)).mp e; omega), hbit]
    dsimp only
    rw [e2, nI_1, pl_mo (by omega) hM, bg_mo (by omega) (by omega) hM]
    by_cases h0 : 0 ≤ mnR r (2 * v + b)
    · rw [if_pos h0] at hq
      subst hq
      have hpre : prR r (2 * v + b) = true := by
        have hself : ∀ (wt : Nat → Nat) (mg : Nat → Int) (M' : Nat), 0 ≤ mn1 wt mg (2 * v + b) M' → pr1 wt (2 * v + b) M' = true := by
          intro wt mg M'
          induction M' with
          | zero => intro h; exact absurd h (show ¬ (0 : Int) ≤ -1 by decide)
          | succ M' ih2 =>
            intro h
            have h' : 0 ≤ (if wt M' = 2 * v + b then mg M' else mn1 wt mg (2 * v + b) M') := h
            show (preQ (2 * v + b) (wt M') || pr1 wt (2 * v + b) M') = true
            by_cases he : wt M' = 2 * v + b
            · rw [he, preQ_self]; rfl
            · rw [if_neg he] at h'; rw [ih2 h']; simp
        rcases hM with ⟨rfl, rfl⟩ | ⟨rfl, rfl⟩
        · exact hself tSN _ 9 h0
        · exact hself tSN _ 10 h0
      rw [hpre, if_neg (show ¬ bI true = 0 by decide)]
      have hmr : mnR r (2 * v + b) < 10 := by
        rcases hM with ⟨rfl, rfl⟩ | ⟨rfl, rfl⟩
        · rcases mn1_in tSN (fun k => (k : Int)) (2 * v + b) 9 with e | ⟨k, a, _, c⟩
          · have : mnR 0 (2 * v + b) = -1 := e
            omega
          · have : mnR 0 (2 * v + b) = k := c
            omega
        · rcases mn1_in tSN (fun k => (k : Int)) (2 * v + b) 10 with e | ⟨k, a, _, c⟩
          · have : mnR 1 (2 * v + b) = -1 := e
            omega
          · have : mnR 1 (2 * v + b) = k := c
            omega
      obtain ⟨μ, hμ⟩ : ∃ μ : Nat, mnR r (2 * v + b) = μ := ⟨(mnR r (2 * v + b)).toNat, by omega⟩
      obtain ⟨-, s2, s3, -⟩ := sg_k μ (by omega)
      obtain ⟨σ, hσ⟩ : ∃ σ : Nat, sg μ = σ := ⟨(sg μ).toNat, by omega⟩
      rw [l_Model_mode_10]
      dsimp only
      rw [if_pos h0, hμ, hσ, iI_n, if_pos (nI_pos' (by omega))]
    · rw [if_neg h0] at hq
      have hsg : iI (sg (mnR r (2 * v + b))) = -1 := by unfold sg; rw [if_pos (by omega)]; rfl
      rw [hsg]
      by_cases hp : prR r (2 * v + b) = true
      · rw [if_pos hp] at hq
        rw [hp, if_neg (show ¬ bI true = 0 by decide)]
        exact ih (g + 1) g2 (2 * v + b) (i + 1) (by omega) (by omega) (by omega) (by omega) (prR_lt hp) q hq
      · rw [if_neg hp] at hq
        subst hq
        rw [Bool.eq_false_iff.mpr hp, if_pos (show bI false = 0 from rfl), hfault g _ _ 2 (by decide), if_neg (show ¬ (0 : Int) ≤ -2 by decide)]
        rfl
theorem mode_f {gv : Nat} (hg : gv ≤ 65536) {inp : Nat → Int32} {p r M : Nat} (hp : p ≤ 8 * gv) (hM : (r = 0 ∧ M = 9) ∨ (r = 1 ∧ M = 10)) {q : Int × Nat} (hq : rdF r (ib inp) (8 * gv) p = q) :
    f_Model_mode (nI gv) inp (nI p) 1 (nI M) = if 0 ≤ q.1 then (iI (sg q.1), (nI q.2, 1)) else (-1, (nI p, iI q.1)) := by
  unfold f_Model_mode
  rw [if_neg (show ¬ Int32.toInt 1 ≤ 0 by decide), nI_toInt (by omega), nI_toInt (by omega)]
  exact mo_ls hg hM (8 * gv - p) _ (8 * gv - p + 1) 1 p (by omega) (by omega) (by omega) (by decide) (by decide) q hq
/-! the reference's END, and its run words -/
theorem me_71 {gv : Int32} {inp : Nat → Int32} {ps st : Int32} (rec7 : Int32 → Int32 → Int32 → Int32 × Int32) {y : Nat} (hy : y < 2 ^ 31) (p2 s2 : Int32) : ∀ (fuel w : Nat), w < fuel → w < 2 ^ 31 → ∀ q, sdn fuel w y = q → l_Model_end_71 gv inp ps st rec7 fuel (nI w) (nI y) p2 s2 = if (q == y) = true then rec7 p2 s2 (nI y) else rec7 (f_Model_fault p2 s2 2 ps).1 (f_Model_fault p2 s2 2 ps).2 (nI y) := by
  intro fuel
  induction fuel with
  | zero => intro w h; omega
  | succ fuel ih =>
    intro w hw hw2 q hq
    simp only [sdn] at hq
    simp only [l_Model_end_71]
    by_cases h : w ≤ y
    · rw [if_pos h] at hq
      rw [if_pos (nI_le h hy), ← hq]
      by_cases he : w = y
      · rw [if_pos (by rw [he]), if_pos (by rw [he, beq_self_eq_true])]
      · rw [if_neg (fun e => he ((nI_eq hw2 hy).mp e)), if_neg (by rw [beq_iff_eq]; exact he)]
    · rw [if_neg h] at hq
      rw [if_neg (nI_ge (by omega) hw2), show nI w >>> ((1 : Int32) &&& 31) = nI (w / 2) from nI_shr (k := 1) hw2 (by decide)]
      exact ih (w / 2) (by omega) (by omega) q hq
theorem me_7 {gv : Nat} (hg : gv ≤ 65536) {inp : Nat → Int32} {ps : Int32} : ∀ (m fuel f2 v i : Nat), m + i = 8 * gv → m + 1 < fuel → m < f2 → 1 ≤ v → v < 4097 → ∀ q, rdW 2 (ib inp) (8 * gv) f2 v i = q →
    l_Model_end_7 (nI gv) inp ps 1 fuel (nI i) 1 (nI v) = if 0 ≤ q.1 then (nI q.2, 0) else (ps, iI q.1) := by
  have e8 : (8 : Int32) * nI gv = nI (8 * gv) := pk_mul 8 gv
  have hfault : ∀ (g : Nat) (p v2 : Int32) (k : Int32), (-k) ≤ 0 → l_Model_end_7 (nI gv) inp ps 1 (g + 1) (f_Model_fault p 1 k ps).1 (f_Model_fault p 1 k ps).2 v2 = (ps, -k) := by
    intro g p v2 k hk
    simp only [l_Model_end_7]
    unfold f_Model_fault
    dsimp only
    rw [if_pos hk, if_pos hk]
    split <;> rfl
  intro m
  induction m with
  | zero =>
    intro fuel f2 v i hm hf h2 hv1 hv q hq
    obtain ⟨g, rfl⟩ : ∃ g, fuel = g + 2 := ⟨fuel - 2, by omega⟩
    obtain ⟨g2, rfl⟩ : ∃ g, f2 = g + 1 := ⟨f2 - 1, by omega⟩
    simp only [rdW] at hq
    rw [if_pos (show 8 * gv ≤ i by omega)] at hq
    subst hq
    rw [l_Model_end_7, if_neg (show ¬ nI v = 4097 from fun e => by have := (nI_eq (b := 4097) (by omega) (by decide)).mp e; omega), if_neg (show ¬ (1 : Int32) ≤ 0 by decide), e8, if_pos (show nI i = nI (8 * gv) by rw [show i = 8 * gv by omega])]
    dsimp only
    rw [hfault g _ _ 1 (by decide), if_neg (show ¬ (0 : Int) ≤ -1 by decide)]
    rfl
  | succ m ih =>
    intro fuel f2 v i hm hf h2 hv1 hv q hq
    obtain ⟨g, rfl⟩ : ∃ g, fuel = g + 2 := ⟨fuel - 2, by omega⟩
    obtain ⟨g2, rfl⟩ : ∃ g, f2 = g + 1 := ⟨f2 - 1, by omega⟩
    obtain ⟨b, hb⟩ : ∃ b, b = (ib inp i).toNat := ⟨_, rfl⟩
    have hb2 : b < 2 := by rw [hb]; exact bt_2 _
    simp only [rdW] at hq
    rw [if_neg (show ¬ 8 * gv ≤ i by omega), ← hb] at hq
    have hbit : f_Model_bit inp (nI i) = nI b := by rw [mbit_f (by omega), hb]; rfl
    have e2 : (2 : Int32) * nI v + nI b = nI (2 * v + b) := ix2
    rw [l_Model_end_7, if_neg (show ¬ nI v = 4097 from fun e => by have := (nI_eq (b := 4097) (by omega) (by decide)).mp e; omega), if_neg (show ¬ (1 : Int32) ≤ 0 by decide), e8, if_neg (fun e => by have := (nI_eq (by omega) (by omega)).mp e; omega), hbit]
    dsimp only
    rw [e2, nI_1, show (4097 : Int32) = nI 4097 from rfl, show (Int32.toInt (nI 4097)).toNat + 1 = 4097 + 1 from by decide, me_71 _ (by omega) _ _ (4097 + 1) 4097 (by decide) (by decide) _ rfl, preQ_s (show 1 ≤ 2 * v + b by omega) (4097 + 1) 4097 (by decide) (by decide)]
    have hm2 : mnR 2 (2 * v + b) = if 2 * v + b = 4097 then 9 else -1 := rfl
    have hp2 : prR 2 (2 * v + b) = preQ (2 * v + b) 4097 := rfl
    rw [hm2, hp2] at hq
    by_cases h0 : 2 * v + b = 4097
    · rw [if_pos h0, if_pos (show (0 : Int) ≤ 9 by decide)] at hq
      subst hq
      rw [h0, preQ_self, if_pos rfl, l_Model_end_7, if_pos (show nI 4097 = 4097 from rfl), if_neg (show ¬ (1 : Int32) ≤ 0 by decide), if_pos (show (0 : Int) ≤ 9 by decide)]
    · rw [if_neg h0, if_neg (show ¬ (0 : Int) ≤ -1 by decide)] at hq
      by_cases hp : preQ (2 * v + b) 4097 = true
      · rw [if_pos hp] at hq
        rw [if_pos hp]
        have := preQ_le hp
        exact ih (g + 1) g2 (2 * v + b) (i + 1) (by omega) (by omega) (by omega) (by omega) (by omega) q hq
      · rw [if_neg hp] at hq
        subst hq
        rw [if_neg hp, hfault g _ _ 2 (by decide), if_neg (show ¬ (0 : Int) ≤ -2 by decide)]
        rfl
theorem end_f {gv : Nat} (hg : gv ≤ 65536) {inp : Nat → Int32} {p : Nat} (hp : p ≤ 8 * gv) {q : Int × Nat} (hq : rdF 2 (ib inp) (8 * gv) p = q) : f_Model_end (nI gv) inp (nI p) 1 = if 0 ≤ q.1 then (nI q.2, 0) else (nI p, iI q.1) := by
  unfold f_Model_end
  rw [if_neg (show ¬ Int32.toInt 1 ≤ 0 by decide), nI_toInt (by omega), nI_toInt (by omega)]
  exact me_7 hg (8 * gv - p) _ (8 * gv - p + 1) 1 p (by omega) (by omega) (by omega) (by decide) (by decide) q hq
/-! run words -/
theorem mn1_mg (wt : Nat → Nat) (mg : Nat → Int) (v : Nat) : ∀ M, mn1 wt mg v M = if 0 ≤ mn1 wt (fun k => (k : Int)) v M then mg (mn1 wt (fun k => (k : Int)) v M).toNat else -1 := by
  intro M
  induction M with
  | zero => show (-1 : Int) = if 0 ≤ (-1 : Int) then _ else -1; rw [if_neg (by decide)]
  | succ M ih =>
    simp only [mn1]
    by_cases h : wt M = v
    · rw [if_pos h, if_pos h, if_pos (Int.natCast_nonneg M), Int.toNat_natCast]
    · rw [if_neg h, if_neg h]; exact ih
def wbN (bk : Bool) (k : Nat) : Nat := blkN (k + 1) bk
def lbN (k : Nat) : Nat := blkN (k + 28) false
theorem wl_dis : ∀ i, i < 27 → ∀ j, j < 13 → wbN false i ≠ lbN j ∧ wbN true i ≠ lbN j := by decide +kernel
theorem lb_e : ∀ k, k < 13 → ∀ bk, bl4 (27 + k + 1) bk = lbN k ∧ tLB k = nI (lbN k) ∧ lbN k < 16384 ∧ 1 ≤ lbN k := by decide +kernel
theorem wb_e : ∀ k, k < 27 → bl4 (k + 1) false = wbN false k ∧ bl4 (k + 1) true = wbN true k ∧ tWB k = nI (wbN false k) ∧ tBB k = nI (wbN true k) ∧ wbN false k < 16384 ∧ wbN true k < 16384 ∧ 1 ≤ wbN false k ∧ 1 ≤ wbN true k := by decide +kernel
theorem mn1_congr {wt wt' : Nat → Nat} {mg mg' : Nat → Int} {v : Nat} : ∀ M, (∀ k, k < M → wt k = wt' k ∧ mg k = mg' k) → mn1 wt mg v M = mn1 wt' mg' v M := by
  intro M
  induction M with
  | zero => intro _; rfl
  | succ M ih =>
    intro h
    simp only [mn1]
    rw [(h M (by omega)).1, (h M (by omega)).2, ih (fun k hk => h k (by omega))]
theorem pr1_congr {wt wt' : Nat → Nat} {v : Nat} : ∀ M, (∀ k, k < M → wt k = wt' k) → pr1 wt v M = pr1 wt' v M := by
  intro M
  induction M with
  | zero => intro _; rfl
  | succ M ih =>
    intro h
    simp only [pr1]
    rw [h M (by omega), ih (fun k hk => h k (by omega))]
theorem pr1_ap (wt : Nat → Nat) (v a : Nat) : ∀ b, pr1 wt v (a + b) = (pr1 (fun k => wt (a + k)) v b || pr1 wt v a) := by
  intro b
  induction b with
  | zero => show pr1 wt v a = (false || _); simp
  | succ b ih =>
    show (preQ v (wt (a + b)) || pr1 wt v (a + b)) = ((preQ v (wt (a + b)) || pr1 (fun k => wt (a + k)) v b) || pr1 wt v a)
    rw [ih, Bool.or_assoc]
def mA (bk : Bool) (v : Nat) : Int := mn1 (fun k => rstN k bk) (fun k => (k : Int)) v 64
def mB (bk : Bool) (v : Nat) : Int := mn1 (wbN bk) (fun k => (k : Int)) v 27
def mC (v : Nat) : Int := mn1 lbN (fun k => (k : Int)) v 13
def rk (bk : Bool) : Nat := if bk then 4 else 3
theorem mn1_b (wt : Nat → Nat) (v M : Nat) : mn1 wt (fun k => (k : Int)) v M < M ∧ -1 ≤ mn1 wt (fun k => (k : Int)) v M ∧ (0 ≤ mn1 wt (fun k => (k : Int)) v M → wt (mn1 wt (fun k => (k : Int)) v M).toNat = v) := by
  rcases mn1_in wt (fun k => (k : Int)) v M with e | ⟨k, a, b, c⟩
  · rw [e]; exact ⟨by omega, by omega, fun h => absurd h (by decide)⟩
  · rw [c]; exact ⟨by omega, by omega, fun _ => by rw [Int.toNat_natCast]; exact b⟩
theorem mnR_r (bk : Bool) (v : Nat) : mnR (rk bk) v = if 0 ≤ mA bk v then mA bk v else if 0 ≤ mB bk v then 64 * (mB bk v + 1) else if 0 ≤ mC v then 1792 + 64 * mC v else -1 := by
  have h1 : mnR (rk bk) v = if 0 ≤ mA bk v then mA bk v else mn1 (fun k => bl4 (k + 1) bk) (fun k => 64 * ((k : Int) + 1)) v 40 := by
    cases bk <;> rfl
  have h2 := mn1_ap (fun k => bl4 (k + 1) bk) (fun k => 64 * ((k : Int) + 1)) v 27 13 (fun k => by omega)
  have h3 : mn1 (fun k => bl4 (27 + k + 1) bk) (fun k => 64 * (((27 + k : Nat) : Int) + 1)) v 13 = if 0 ≤ mC v then 1792 + 64 * mC v else -1 := by
    rw [mn1_congr (wt' := lbN) (mg' := fun k => 1792 + 64 * (k : Int)) 13 (fun k hk => ⟨(lb_e k hk bk).1, by omega⟩), mn1_mg]
    show (if 0 ≤ mC v then _ else _) = _
    by_cases h : 0 ≤ mC v
    · rw [if_pos h, if_pos h]
      show 1792 + 64 * ((mC v).toNat : Int) = _
      omega
    · rw [if_neg h, if_neg h]
  have h4 : mn1 (fun k => bl4 (k + 1) bk) (fun k => 64 * ((k : Int) + 1)) v 27 = if 0 ≤ mB bk v then 64 * (mB bk v + 1) else -1 := by
    rw [mn1_congr (wt' := wbN bk) (mg' := fun k => 64 * ((k : Int) + 1)) 27 (fun k hk => ⟨by cases bk; exact (wb_e k hk).1; exact (wb_e k hk).2.1, rfl⟩), mn1_mg]
    show (if 0 ≤ mB bk v then _ else _) = _
    by_cases h : 0 ≤ mB bk v
    · rw [if_pos h, if_pos h]
      show 64 * ((((mB bk v).toNat : Nat) : Int) + 1) = _
      omega
    · rw [if_neg h, if_neg h]
  rw [h1, show (40 : Nat) = 27 + 13 from rfl, h2]
  by_cases hA : 0 ≤ mA bk v
  · rw [if_pos hA, if_pos hA]
  · rw [if_neg hA, if_neg hA, h3, h4]
    by_cases hC : 0 ≤ mC v
    · have hB : ¬ 0 ≤ mB bk v := by
        intro hB
        obtain ⟨b1, b2, b3⟩ := mn1_b (wbN bk) v 27
        obtain ⟨c1, c2, c3⟩ := mn1_b lbN v 13
        have hb : (mB bk v).toNat < 27 := by unfold mB at hB ⊢; omega
        have hc : (mC v).toNat < 13 := by unfold mC at hC ⊢; omega
        have := wl_dis _ hb _ hc
        have e := (b3 hB).trans (c3 hC).symm
        cases bk
        · exact this.1 e
        · exact this.2 e
      rw [if_pos hC, if_pos (show 0 ≤ 1792 + 64 * mC v by omega), if_neg hB]
    · rw [if_neg hC, if_neg (show ¬ (0 : Int) ≤ -1 by decide)]
theorem prR_r (bk : Bool) (v : Nat) : prR (rk bk) v = (pr1 (fun k => rstN k bk) v 64 || (pr1 (wbN bk) v 27 || pr1 lbN v 13)) := by
  have h1 : prR (rk bk) v = (pr1 (fun k => rstN k bk) v 64 || pr1 (fun k => bl4 (k + 1) bk) v 40) := by cases bk <;> rfl
  rw [h1, show (40 : Nat) = 27 + 13 from rfl, pr1_ap, pr1_congr (wt' := lbN) 13 (fun k hk => (lb_e k hk bk).1), pr1_congr (wt := fun k => bl4 (k + 1) bk) (wt' := wbN bk) 27 (fun k hk => by cases bk; exact (wb_e k hk).1; exact (wb_e k hk).2.1), Bool.or_comm (pr1 lbN v 13)]
/-! the reference reads a run -/
theorem pl_A0 {v : Nat} (hv : v < 2 ^ 31) : f_Model_placeOf tWR 64 (nI v) = iI (mA false v) :=
  (pl_f tWR (M := 64) (by decide) (nI v)).trans (plc_mn tWR (fun k => rstN k false) hv 64 (fun k hk => ⟨(rst_w k hk).1.1, by have := (rst_w k hk).1.2.2; omega⟩))
theorem pl_A1 {v : Nat} (hv : v < 2 ^ 31) : f_Model_placeOf tBR 64 (nI v) = iI (mA true v) :=
  (pl_f tBR (M := 64) (by decide) (nI v)).trans (plc_mn tBR (fun k => rstN k true) hv 64 (fun k hk => ⟨(rst_w k hk).2.1, by have := (rst_w k hk).2.2.2; omega⟩))
theorem pl_B0 {v : Nat} (hv : v < 2 ^ 31) : f_Model_placeOf tWB 27 (nI v) = iI (mB false v) :=
  (pl_f tWB (M := 27) (by decide) (nI v)).trans (plc_mn tWB (wbN false) hv 27 (fun k hk => ⟨(wb_e k hk).2.2.1, by have := (wb_e k hk).2.2.2.2.1; omega⟩))
theorem pl_B1 {v : Nat} (hv : v < 2 ^ 31) : f_Model_placeOf tBB 27 (nI v) = iI (mB true v) :=
  (pl_f tBB (M := 27) (by decide) (nI v)).trans (plc_mn tBB (wbN true) hv 27 (fun k hk => ⟨(wb_e k hk).2.2.2.1, by have := (wb_e k hk).2.2.2.2.2.1; omega⟩))
theorem pl_C {v : Nat} (hv : v < 2 ^ 31) : f_Model_placeOf tLB 13 (nI v) = iI (mC v) :=
  (pl_f tLB (M := 13) (by decide) (nI v)).trans (plc_mn tLB lbN hv 13 (fun k hk => ⟨(lb_e k hk false).2.1, by have := (lb_e k hk false).2.2.1; omega⟩))
theorem cl_n {n : Nat} (h : n < 2 ^ 31) {x : Int32} (e : x = nI n) : x.toNatClampNeg = n := by rw [e, nI_clamp h]
theorem bg_T (of : Nat → Int32) (wt : Nat → Nat) {M v : Nat} (hM : M < 1000) (h1 : 1 ≤ v) (hv : v < 2 ^ 31) (hw : ∀ k, k < M → of k = nI (wt k) ∧ 1 ≤ wt k ∧ wt k < 16384) : f_Model_begins of (nI M) (nI v) = bI (pr1 wt v M) := by
  have := bg_f of (M := M) (V := v) hM hv (fun k hk => by rw [(hw k hk).1, nI_toInt (by have := (hw k hk).2.2; omega)]; omega)
  refine this.trans (congrArg bI (anyP_pr wt _ v M (fun k hk => ?_)))
  rw [cl_n (by have := (hw k hk).2.2; omega) (hw k hk).1]
  exact isPre_Q h1 (hw k hk).2.1
theorem bg_A0 {v : Nat} (h1 : 1 ≤ v) (hv : v < 2 ^ 31) : f_Model_begins tWR 64 (nI v) = bI (pr1 (fun k => rstN k false) v 64) := bg_T tWR (fun k => rstN k false) (M := 64) (by decide) h1 hv (fun k hk => (rst_w k hk).1)
theorem bg_A1 {v : Nat} (h1 : 1 ≤ v) (hv : v < 2 ^ 31) : f_Model_begins tBR 64 (nI v) = bI (pr1 (fun k => rstN k true) v 64) := bg_T tBR (fun k => rstN k true) (M := 64) (by decide) h1 hv (fun k hk => (rst_w k hk).2)
theorem bg_B0 {v : Nat} (h1 : 1 ≤ v) (hv : v < 2 ^ 31) : f_Model_begins tWB 27 (nI v) = bI (pr1 (wbN false) v 27) := bg_T tWB (wbN false) (M := 27) (by decide) h1 hv (fun k hk => ⟨(wb_e k hk).2.2.1, (wb_e k hk).2.2.2.2.2.2.1, (wb_e k hk).2.2.2.2.1⟩)
theorem bg_B1 {v : Nat} (h1 : 1 ≤ v) (hv : v < 2 ^ 31) : f_Model_begins tBB 27 (nI v) = bI (pr1 (wbN true) v 27) := bg_T tBB (wbN true) (M := 27) (by decide) h1 hv (fun k hk => ⟨(wb_e k hk).2.2.2.1, (wb_e k hk).2.2.2.2.2.2.2, (wb_e k hk).2.2.2.2.2.1⟩)
theorem bg_C {v : Nat} (h1 : 1 ≤ v) (hv : v < 2 ^ 31) : f_Model_begins tLB 13 (nI v) = bI (pr1 lbN v 13) := bg_T tLB lbN (M := 13) (by decide) h1 hv (fun k hk => ⟨(lb_e k hk false).2.1, (lb_e k hk false).2.2.2, (lb_e k hk false).2.2.1⟩)
theorem mn_c (wt : Nat → Nat) (v M : Nat) : mn1 wt (fun k => (k : Int)) v M = -1 ∨ ∃ a : Nat, a < M ∧ mn1 wt (fun k => (k : Int)) v M = a := by
  rcases mn1_in wt (fun k => (k : Int)) v M with e | ⟨k, a, _, c⟩
  · exact Or.inl e
  · exact Or.inr ⟨k, a, c⟩
/-- what the reference does with the word so far -/
def kS (bk : Bool) (v : Nat) {α : Type} (found : Int32 → Bool → α) (more bad : α) : α :=
  if 0 ≤ mnR (rk bk) v then found (iI (mnR (rk bk) v)) (decide (64 ≤ mnR (rk bk) v)) else if prR (rk bk) v then more else bad
theorem kS_f {α : Type} (bk : Bool) {v : Nat} (h1 : 1 ≤ v) (hv : v < 2 ^ 31) (found : Int32 → Bool → α) (more bad : Int32 → α) (A B C a b c : Int32) (hA : A = iI (mA bk v)) (hB : B = iI (mB bk v)) (hC : C = iI (mC v)) (ha : a = bI (pr1 (fun k => rstN k bk) v 64)) (hb : b = bI (pr1 (wbN bk) v 27)) (hc : c = bI (pr1 lbN v 13)) :
    (if 0 ≤ A then found A false else (if B < 0 then (if C < 0 then (if a = 0 then (if b = 0 then (if c = 0 then bad (-1) else more (-1)) else more (-1)) else more (-1))
      else (if 0 ≤ 1792 + (64 * C) then found (1792 + (64 * C)) true else (if a = 0 then (if b = 0 then (if c = 0 then bad (1792 + (64 * C)) else more (1792 + (64 * C))) else more (1792 + (64 * C))) else more (1792 + (64 * C)))))
      else (if 0 ≤ 64 * (B + 1) then found (64 * (B + 1)) true else (if a = 0 then (if b = 0 then (if c = 0 then bad (64 * (B + 1)) else more (64 * (B + 1))) else more (64 * (B + 1))) else more (64 * (B + 1)))))) = kS bk v found (more (-1)) (bad (-1)) := by
  unfold kS
  rw [mnR_r, prR_r]
  rcases mn_c (fun k => rstN k bk) v 64 with eA | ⟨x, hx, eA⟩
  · have eA' : mA bk v = -1 := eA
    rw [hA, eA', if_neg (show ¬ (0 : Int32) ≤ iI (-1) by decide), if_neg (show ¬ (0 : Int) ≤ -1 by decide)]
    rcases mn_c (wbN bk) v 27 with eB | ⟨y, hy, eB⟩
    · have eB' : mB bk v = -1 := eB
      rw [hB, eB', if_pos (show iI (-1) < 0 by decide), if_neg (show ¬ (0 : Int) ≤ -1 by decide)]
      rcases mn_c lbN v 13 with eC | ⟨z, hz, eC⟩
      · have eC' : mC v = -1 := eC
        rw [hC, eC', if_pos (show iI (-1) < 0 by decide), if_neg (show ¬ (0 : Int) ≤ -1 by decide), if_neg (show ¬ (0 : Int) ≤ -1 by decide), ha, hb, hc]
        cases pr1 (fun k => rstN k bk) v 64 <;> cases pr1 (wbN bk) v 27 <;> cases pr1 lbN v 13 <;> rfl
      · have eC' : mC v = z := eC
        have e1 : (1792 : Int32) + 64 * nI z = nI (1792 + 64 * z) := by rw [show (64 : Int32) * nI z = nI (64 * z) from pk_mul 64 z]; exact nI_add 1792 _
        rw [hC, eC', iI_n, if_neg (nI_pos (by omega)), if_pos (Int.natCast_nonneg z), if_pos (show (0 : Int) ≤ 1792 + 64 * (z : Int) by omega), e1, if_pos (nI_pos' (by omega)), decide_eq_true (show (64 : Int) ≤ 1792 + 64 * (z : Int) by omega), show (1792 + 64 * (z : Int)) = ((1792 + 64 * z : Nat) : Int) by omega, iI_n]
    · have eB' : mB bk v = y := eB
      have e1 : (64 : Int32) * (nI y + 1) = nI (64 * (y + 1)) := by rw [nI_1]; exact pk_mul 64 _
      rw [hB, eB', iI_n, if_neg (nI_pos (by omega)), if_pos (Int.natCast_nonneg y), if_pos (show (0 : Int) ≤ 64 * ((y : Int) + 1) by omega), e1, if_pos (nI_pos' (by omega)), decide_eq_true (show (64 : Int) ≤ 64 * ((y : Int) + 1) by omega), show (64 * ((y : Int) + 1)) = ((64 * (y + 1) : Nat) : Int) by omega, iI_n]
  · have eA' : mA bk v = x := eA
    rw [hA, eA', iI_n, if_pos (nI_pos' (by omega)), if_pos (Int.natCast_nonneg x), if_pos (Int.natCast_nonneg x), decide_eq_false (show ¬ (64 : Int) ≤ (x : Int) by omega), iI_n]
theorem mr_29 {wd gv : Nat} (hg : gv ≤ 65536) {inp : Nat → Int32} {ps st x : Int32} {bk : Bool} {y5 y3 : Int32} (rec5 : Int32 → Int32 → Int32 → Bool → Int32 × (Int32 × Int32)) : ∀ (m fuel f2 v i : Nat) (m2 : Bool), m + i = 8 * gv → m + 1 < fuel → m < f2 → 1 ≤ v → v < 16384 → ∀ q, rdW (rk bk) (ib inp) (8 * gv) f2 v i = q →
    (0 ≤ q.1 → l_Model_readRun_29 wd (nI gv) inp ps st x bk rec5 fuel (nI i) 1 m2 (nI v) (-1) y5 y3 = if x + (y3 + iI q.1) ≤ nI wd then rec5 (nI q.2) 1 (y3 + iI q.1) (decide (64 ≤ q.1)) else rec5 y5 (-5) (y3 + iI q.1) (decide (64 ≤ q.1))) ∧
    (q.1 < 0 → ∃ m', l_Model_readRun_29 wd (nI gv) inp ps st x bk rec5 fuel (nI i) 1 m2 (nI v) (-1) y5 y3 = rec5 y5 (iI q.1) (y3 + 0) m') := by
  have e8 : (8 : Int32) * nI gv = nI (8 * gv) := pk_mul 8 gv
  have hfault : ∀ (g : Nat) (p v2 : Int32) (k : Int32) (m2 : Bool), (-k) ≤ 0 → l_Model_readRun_29 wd (nI gv) inp ps st x bk rec5 (g + 1) (f_Model_fault p 1 k y5).1 (f_Model_fault p 1 k y5).2 m2 v2 (-1) y5 y3 = rec5 y5 (-k) (y3 + 0) m2 := by
    intro g p v2 k m2 hk
    rw [l_Model_readRun_29, if_neg (show ¬ (0 : Int32) ≤ -1 by decide)]
    unfold f_Model_fault
    dsimp only
    rw [if_pos hk]
  intro m
  induction m with
  | zero =>
    intro fuel f2 v i m2 hm hf h2 hv1 hv q hq
    obtain ⟨g, rfl⟩ : ∃ g, fuel = g + 2 := ⟨fuel - 2, by omega⟩
    obtain ⟨g2, rfl⟩ : ∃ g, f2 = g + 1 := ⟨f2 - 1, by omega⟩
    simp only [rdW] at hq
    rw [if_pos (show 8 * gv ≤ i by omega)] at hq
    subst hq
    refine ⟨fun h => absurd h (show ¬ (0 : Int) ≤ -1 by decide), fun _ => ⟨m2, ?_⟩⟩
    rw [l_Model_readRun_29, if_neg (show ¬ (0 : Int32) ≤ -1 by decide), if_neg (show ¬ (1 : Int32) ≤ 0 by decide), e8, if_pos (show nI i = nI (8 * gv) by rw [show i = 8 * gv by omega])]
    exact hfault g _ _ 1 m2 (by decide)
  | succ m ih =>
    intro fuel f2 v i m2 hm hf h2 hv1 hv q hq
    obtain ⟨g, rfl⟩ : ∃ g, fuel = g + 2 := ⟨fuel - 2, by omega⟩
    obtain ⟨g2, rfl⟩ : ∃ g, f2 = g + 1 := ⟨f2 - 1, by omega⟩
    obtain ⟨b, hb⟩ : ∃ b, b = (ib inp i).toNat := ⟨_, rfl⟩
    have hb2 : b < 2 := by rw [hb]; exact bt_2 _
    simp only [rdW] at hq
    rw [if_neg (show ¬ 8 * gv ≤ i by omega), ← hb] at hq
    have hbit : f_Model_bit inp (nI i) = nI b := by rw [mbit_f (by omega), hb]; rfl
    have e2 : (2 : Int32) * nI v + nI b = nI (2 * v + b) := ix2
    have hv31 : 2 * v + b < 2 ^ 31 := by omega
    have hstep : l_Model_readRun_29 wd (nI gv) inp ps st x bk rec5 (g + 2) (nI i) 1 m2 (nI v) (-1) y5 y3 = kS bk (2 * v + b) (fun nn mm => l_Model_readRun_29 wd (nI gv) inp ps st x bk rec5 (g + 1) (nI (i + 1)) 1 mm (nI (2 * v + b)) nn y5 y3) (l_Model_readRun_29 wd (nI gv) inp ps st x bk rec5 (g + 1) (nI (i + 1)) 1 true (nI (2 * v + b)) (-1) y5 y3)
        (l_Model_readRun_29 wd (nI gv) inp ps st x bk rec5 (g + 1) (f_Model_fault (nI (i + 1)) 1 2 y5).1 (f_Model_fault (nI (i + 1)) 1 2 y5).2 true (nI (2 * v + b)) (-1) y5 y3) := by
      rw [l_Model_readRun_29, if_neg (show ¬ (0 : Int32) ≤ -1 by decide), if_neg (show ¬ (1 : Int32) ≤ 0 by decide), e8, if_neg (fun e => by have := (nI_eq (by omega) (by omega)).mp e; omega), hbit]
      dsimp only
      rw [e2, nI_1]
      cases bk with
      | false =>
        rw [if_pos (show bI false = 0 from rfl)]
        exact kS_f false (show 1 ≤ 2 * v + b by omega) hv31 (fun nn mm => l_Model_readRun_29 wd (nI gv) inp ps st x false rec5 (g + 1) (nI (i + 1)) 1 mm (nI (2 * v + b)) nn y5 y3) (fun nn => l_Model_readRun_29 wd (nI gv) inp ps st x false rec5 (g + 1) (nI (i + 1)) 1 true (nI (2 * v + b)) nn y5 y3) (fun nn => l_Model_readRun_29 wd (nI gv) inp ps st x false rec5 (g + 1) (f_Model_fault (nI (i + 1)) 1 2 y5).1 (f_Model_fault (nI (i + 1)) 1 2 y5).2 true (nI (2 * v + b)) nn y5 y3)
          (f_Model_placeOf tWR 64 (nI (2 * v + b))) (f_Model_placeOf tWB 27 (nI (2 * v + b))) (f_Model_placeOf tLB 13 (nI (2 * v + b))) (f_Model_begins tWR 64 (nI (2 * v + b))) (f_Model_begins tWB 27 (nI (2 * v + b))) (f_Model_begins tLB 13 (nI (2 * v + b))) (pl_A0 hv31) (pl_B0 hv31) (pl_C hv31) (bg_A0 (by omega) hv31) (bg_B0 (by omega) hv31) (bg_C (by omega) hv31)
      | true =>
        rw [if_neg (show ¬ bI true = 0 by decide)]
        exact kS_f true (show 1 ≤ 2 * v + b by omega) hv31 (fun nn mm => l_Model_readRun_29 wd (nI gv) inp ps st x true rec5 (g + 1) (nI (i + 1)) 1 mm (nI (2 * v + b)) nn y5 y3) (fun nn => l_Model_readRun_29 wd (nI gv) inp ps st x true rec5 (g + 1) (nI (i + 1)) 1 true (nI (2 * v + b)) nn y5 y3) (fun nn => l_Model_readRun_29 wd (nI gv) inp ps st x true rec5 (g + 1) (f_Model_fault (nI (i + 1)) 1 2 y5).1 (f_Model_fault (nI (i + 1)) 1 2 y5).2 true (nI (2 * v + b)) nn y5 y3)
          (f_Model_placeOf tBR 64 (nI (2 * v + b))) (f_Model_placeOf tBB 27 (nI (2 * v + b))) (f_Model_placeOf tLB 13 (nI (2 * v + b))) (f_Model_begins tBR 64 (nI (2 * v + b))) (f_Model_begins tBB 27 (nI (2 * v + b))) (f_Model_begins tLB 13 (nI (2 * v + b))) (pl_A1 hv31) (pl_B1 hv31) (pl_C hv31) (bg_A1 (by omega) hv31) (bg_B1 (by omega) hv31) (bg_C (by omega) hv31)
    rw [hstep]
    unfold kS
    by_cases h0 : 0 ≤ mnR (rk bk) (2 * v + b)
    · rw [if_pos h0] at hq
      rw [if_pos h0]
      subst hq
      refine ⟨fun _ => ?_, fun h => absurd h0 (by dsimp only at h; omega)⟩
      have hpos : (0 : Int32) ≤ iI (mnR (rk bk) (2 * v + b)) := by
        have hle : mnR (rk bk) (2 * v + b) ≤ 2560 := by
          rw [mnR_r]
          have hA := (mn1_b (fun k => rstN k bk) (2 * v + b) 64).1
          have hB := (mn1_b (wbN bk) (2 * v + b) 27).1
          have hC := (mn1_b lbN (2 * v + b) 13).1
          have hA' : mA bk (2 * v + b) < 64 := hA
          have hB' : mB bk (2 * v + b) < 27 := hB
          have hC' : mC (2 * v + b) < 13 := hC
          split
          · omega
          · split
            · omega
            · split <;> omega
        obtain ⟨μ, hμ⟩ : ∃ μ : Nat, mnR (rk bk) (2 * v + b) = μ := ⟨(mnR (rk bk) (2 * v + b)).toNat, by omega⟩
        rw [hμ, iI_n]; exact nI_pos' (by omega)
      dsimp only
      rw [l_Model_readRun_29, if_pos hpos]
      rw [if_neg (show ¬ (1 : Int32) ≤ 0 by decide)]
      rfl
    · rw [if_neg h0] at hq
      rw [if_neg h0]
      by_cases hp : prR (rk bk) (2 * v + b) = true
      · rw [if_pos hp] at hq
        rw [if_pos hp]
        exact ih (g + 1) g2 (2 * v + b) (i + 1) true (by omega) (by omega) (by omega) (by omega) (prR_lt hp) q hq
      · rw [if_neg hp] at hq
        rw [if_neg hp]
        subst hq
        exact ⟨fun h => absurd h (show ¬ (0 : Int) ≤ -2 by decide), fun _ => ⟨true, hfault g _ _ 2 true (by decide)⟩⟩
/-! a run, read by both -/
def rnS (wd : Nat) (bk : Bool) (bit : Nat → Bool) (E : Nat) : Nat → Nat → Nat → Int × Nat
  | 0, p, _ => (-1, p)
  | f + 1, p, to => if (rdF (rk bk) bit E p).1 < 0 then ((rdF (rk bk) bit E p).1, p) else if (wd : Int) < to + (rdF (rk bk) bit E p).1 then (-5, p)
      else if (rdF (rk bk) bit E p).1 < 64 then (to + (rdF (rk bk) bit E p).1, (rdF (rk bk) bit E p).2) else rnS wd bk bit E f (rdF (rk bk) bit E p).2 (to + (rdF (rk bk) bit E p).1.toNat)
theorem rk5 (bk : Bool) : rk bk < 5 := by cases bk <;> decide
theorem rdF_congr {r E p : Nat} {a b : Nat → Bool} (h : ∀ i, i < E → a i = b i) : rdF r a E p = rdF r b E p := by
  have : ∀ f v i, rdW r a E f v i = rdW r b E f v i := by
    intro f
    induction f with
    | zero => intro v i; rfl
    | succ f ih =>
      intro v i
      simp only [rdW]
      by_cases hi : E ≤ i
      · rw [if_pos hi, if_pos hi]
      · rw [if_neg hi, if_neg hi, h i (by omega), ih]
  exact this _ _ _
theorem rd_b {f : Nat → Int64} {E : Nat} (hE : E ≤ 524288) {r p : Nat} (hr : r < 5) (hp : p ≤ E) : (rdF r (gb f) E p).2 ≤ E ∧ ((rdF r (gb f) E p).1 < 0 → (rdF r (gb f) E p).1 = -1 ∨ (rdF r (gb f) E p).1 = -2) ∧ (0 ≤ (rdF r (gb f) E p).1 → p < (rdF r (gb f) E p).2 ∧ (rdF r (gb f) E p).1 ≤ 2560) := (take_f hE hr hp 0 rfl).2
theorem rn_b {wd : Nat} {bk : Bool} {f : Nat → Int64} {E : Nat} (hE : E ≤ 524288) : ∀ (n p to : Nat), p ≤ E → to ≤ wd → (rnS wd bk (gb f) E n p to).2 ≤ E ∧ p ≤ (rnS wd bk (gb f) E n p to).2 ∧ (0 ≤ (rnS wd bk (gb f) E n p to).1 → (to : Int) ≤ (rnS wd bk (gb f) E n p to).1 ∧ (rnS wd bk (gb f) E n p to).1 ≤ wd) ∧ ((rnS wd bk (gb f) E n p to).1 < 0 → -6 ≤ (rnS wd bk (gb f) E n p to).1) := by
  intro n
  induction n with
  | zero => intro p to hp ht; exact ⟨hp, Nat.le_refl _, fun h => absurd h (show ¬ (0 : Int) ≤ -1 by decide), fun _ => show (-6 : Int) ≤ -1 by decide⟩
  | succ n ih =>
    intro p to hp ht
    obtain ⟨b1, b2, b3⟩ := rd_b (f := f) hE (rk5 bk) hp
    simp only [rnS]
    by_cases h1 : (rdF (rk bk) (gb f) E p).1 < 0
    · rw [if_pos h1]
      dsimp only
      exact ⟨hp, Nat.le_refl _, fun h => by omega, fun _ => by rcases b2 h1 with e | e <;> omega⟩
    · rw [if_neg h1]
      by_cases h2 : (wd : Int) < to + (rdF (rk bk) (gb f) E p).1
      · rw [if_pos h2]; exact ⟨hp, Nat.le_refl _, fun h => absurd h (show ¬ (0 : Int) ≤ -5 by decide), fun _ => show (-6 : Int) ≤ -5 by decide⟩
      · rw [if_neg h2]
        have b3' := b3 (by omega)
        by_cases h3 : (rdF (rk bk) (gb f) E p).1 < 64
        · rw [if_pos h3]; dsimp only; exact ⟨b1, by omega, fun _ => ⟨by omega, by omega⟩, fun h => by omega⟩
        · rw [if_neg h3]
          obtain ⟨c1, c2, c3, c4⟩ := ih (rdF (rk bk) (gb f) E p).2 (to + (rdF (rk bk) (gb f) E p).1.toNat) b1 (by omega)
          exact ⟨c1, by omega, fun h => ⟨by have := (c3 h).1; omega, (c3 h).2⟩, c4⟩
theorem crn_5 {wd : Nat} (hw : wd ≤ 10000) {f : Nat → Int64} {E : Nat} (hE : E ≤ 524288) (rd : Int32 × Int32) (x : Int32) (bk : Bool) : ∀ (n fuel p to k : Nat) (y : Int32), E - p < n → p ≤ E → to ≤ wd → wd - to < fuel → k ≤ to →
    ∃ wa, l_Reader_runFrom_5 wd (f, nI E) f_Tree_init rd x bk fuel (nI p, y) (nI to) (nI k) = (iI (rnS wd bk (gb f) E n p to).1, (nI (rnS wd bk (gb f) E n p to).2, wa)) := by
  intro n
  induction n with
  | zero => intro fuel p to k y h; omega
  | succ n ih =>
    intro fuel p to k y hn hp ht hf hk
    obtain ⟨g, rfl⟩ : ∃ g, fuel = g + 1 := ⟨fuel - 1, by omega⟩
    obtain ⟨q, hq⟩ : ∃ q, q = rdF (rk bk) (gb f) E p := ⟨_, rfl⟩
    obtain ⟨t1, t2, t3, t4⟩ := take_f hE (rk5 bk) hp y hq.symm
    -- both colours alike
    have hbody : ∀ T : Int32 × (Int32 × Int32), T = (iI q.1, if 0 ≤ q.1 then (nI q.2, nI p) else (nI p, nI p)) → ∃ wa, (if 0 ≤ T.1 then (if T.1 ≤ ((nI wd) - nI to) then (let x_7 := nI to + T.1; if 64 ≤ T.1 then (let x_9 := nI k + 1; l_Reader_runFrom_5 wd (f, nI E) f_Tree_init rd x bk g T.2 x_7 x_9) else ((x_7, T.2))) else (let r_10 := (f_Reader_faultAt T.2 T.2.2 (-5)).1; let u_10 := (f_Reader_faultAt T.2 T.2.2 (-5)).2; (r_10, u_10))) else ((T.1, T.2))) = (iI (rnS wd bk (gb f) E (n + 1) p to).1, (nI (rnS wd bk (gb f) E (n + 1) p to).2, wa)) := by
      intro T hT
      subst hT
      dsimp only
      simp only [rnS]
      rw [← hq]
      by_cases h1 : q.1 < 0
      · rw [if_pos h1]
        have h0 : ¬ (0 : Int32) ≤ iI q.1 := by rcases t3 h1 with e | e <;> rw [e] <;> decide
        rw [if_neg h0, if_neg (show ¬ 0 ≤ q.1 by omega)]
        exact ⟨nI p, rfl⟩
      · rw [if_neg h1]
        obtain ⟨d, hd⟩ : ∃ d : Nat, q.1 = d := ⟨q.1.toNat, by omega⟩
        have t4' := t4 (by omega)
        have hd2 : d ≤ 2560 := by omega
        rw [hd, iI_n, if_pos (nI_pos' (by omega)), pk_sub ht, if_pos (Int.natCast_nonneg d), nI_add]
        by_cases h2 : wd < to + d
        · rw [if_neg (nI_ge (by omega) (by omega)), if_pos (show (wd : Int) < to + (d : Int) by omega)]
          exact ⟨nI p, rfl⟩
        · rw [if_pos (nI_le (by omega) (by omega)), if_neg (show ¬ (wd : Int) < to + (d : Int) by omega)]
          by_cases h3 : d < 64
          · rw [if_neg (show ¬ (64 : Int32) ≤ nI d from nI_ge (b := 64) h3 (by omega)), if_pos (show (d : Int) < 64 by omega)]
            refine ⟨nI p, ?_⟩
            rw [show (to : Int) + (d : Int) = ((to + d : Nat) : Int) by omega, iI_n]
          · rw [if_pos (show (64 : Int32) ≤ nI d from nI_le (a := 64) (by omega) (by omega)), if_neg (show ¬ (d : Int) < 64 by omega), nI_1, Int.toNat_natCast]
            exact ih g q.2 (to + d) (k + 1) (nI p) (by omega) t2 (by omega) (by omega) (by omega)
    rw [l_Reader_runFrom_5, if_neg (nI_nlt (by omega) (by omega))]
    cases bk with
    | false => rw [if_pos (show bI false = 0 from rfl)]; exact hbody _ t1
    | true => rw [if_neg (show ¬ bI true = 0 by decide)]; exact hbody _ t1
theorem crn_f {wd : Nat} (hw : wd ≤ 10000) {f : Nat → Int64} {E : Nat} (hE : E ≤ 524288) (bk : Bool) {p fr : Nat} (y : Int32) (hp : p ≤ E) (hf : fr ≤ wd) : ∃ wa, f_Reader_runFrom wd (f, nI E) f_Tree_init (nI p, y) (nI fr) bk = (iI (rnS wd bk (gb f) E (E - p + 1) p fr).1, (nI (rnS wd bk (gb f) E (E - p + 1) p fr).2, wa)) := by
  unfold f_Reader_runFrom
  exact crn_5 hw hE (nI p, y) (nI fr) bk (E - p + 1) _ p fr 0 y (by omega) hp hf (by rw [nI_toInt (by omega), ti_0]; omega) (Nat.zero_le _)
theorem mrn_5 {wd gv : Nat} (hw : wd ≤ 10000) (hg : gv ≤ 65536) {f : Nat → Int64} {inp : Nat → Int32} (hin : inR f gv inp) {ps : Int32} {F : Nat} {bk : Bool} : ∀ (n fuel p to : Nat), 8 * gv - p < n → 8 * gv - p + 1 < fuel → p ≤ 8 * gv → F ≤ to → to ≤ wd →
    (0 ≤ (rnS wd bk (gb f) (8 * gv) n p to).1 → l_Model_readRun_5 wd (nI gv) inp ps 1 (nI F) bk fuel (nI p) 1 (nI (to - F)) true = (nI ((rnS wd bk (gb f) (8 * gv) n p to).1.toNat - F), (nI (rnS wd bk (gb f) (8 * gv) n p to).2, 1))) ∧
    ((rnS wd bk (gb f) (8 * gv) n p to).1 < 0 → ∃ s, l_Model_readRun_5 wd (nI gv) inp ps 1 (nI F) bk fuel (nI p) 1 (nI (to - F)) true = (s, (nI (rnS wd bk (gb f) (8 * gv) n p to).2, iI (rnS wd bk (gb f) (8 * gv) n p to).1))) := by
  intro n
  induction n with
  | zero => intro fuel p to h; omega
  | succ n ih =>
    intro fuel p to hn hf hp hF ht
    obtain ⟨g, rfl⟩ : ∃ g, fuel = g + 2 := ⟨fuel - 2, by omega⟩
    obtain ⟨q, hq⟩ : ∃ q, q = rdF (rk bk) (gb f) (8 * gv) p := ⟨_, rfl⟩
    have hcg : rdF (rk bk) (gb f) (8 * gv) p = rdF (rk bk) (ib inp) (8 * gv) p := rdF_congr (fun i hi => by rw [hin i (by omega), decide_eq_true hi]; rfl)
    obtain ⟨b1, b2, b3⟩ := rd_b (f := f) (E := 8 * gv) (by omega) (rk5 bk) hp
    rw [← hq] at b1 b2 b3
    have hdone : ∀ (g2 : Nat) (p2 s2 s : Int32) (mq : Bool), (mq = false ∨ s2 ≤ 0) → l_Model_readRun_5 wd (nI gv) inp ps 1 (nI F) bk (g2 + 1) p2 s2 s mq = (s, (p2, s2)) := by
      intro g2 p2 s2 s mq h
      rw [l_Model_readRun_5]
      rcases h with rfl | h
      · rw [if_pos (show bI false = 0 from rfl)]
      · by_cases hm : bI mq = 0
        · rw [if_pos hm]
        · rw [if_neg hm, if_pos h]
    obtain ⟨m1, m2⟩ := mr_29 (wd := wd) hg (inp := inp) (ps := ps) (st := 1) (x := nI F) (bk := bk) (y5 := nI p) (y3 := nI (to - F)) (l_Model_readRun_5 wd (nI gv) inp ps 1 (nI F) bk (g + 1)) (8 * gv - p) ((if Int32.toInt 1 ≤ 0 then 0 else (8 * (nI gv).toInt - Int32.toInt (nI p)).toNat + 1) + 1) (8 * gv - p + 1) 1 p true (by omega) (by rw [if_neg (by decide), nI_toInt (by omega), nI_toInt (by omega)]; omega) (by omega) (by decide) (by decide) q (by rw [hq, hcg]; rfl)
    rw [show nI 1 = 1 from rfl] at m1 m2
    rw [l_Model_readRun_5, if_neg (show ¬ bI true = 0 by decide), if_neg (show ¬ (1 : Int32) ≤ 0 by decide)]
    simp only [rnS]
    rw [← hq]
    by_cases h1 : q.1 < 0
    · obtain ⟨mm, e⟩ := m2 h1
      rw [if_pos h1, e]
      dsimp only
      refine ⟨fun h => by omega, fun _ => ⟨_, hdone g _ _ _ _ (Or.inr (by rcases b2 h1 with e | e <;> rw [e] <;> decide))⟩⟩
    · rw [if_neg h1, m1 (by omega)]
      obtain ⟨d, hd⟩ : ∃ d : Nat, q.1 = d := ⟨q.1.toNat, by omega⟩
      have b3' := b3 (by omega)
      have hd2 : d ≤ 2560 := by omega
      rw [hd, iI_n, nI_add, nI_add, Int.toNat_natCast]
      by_cases h2 : wd < to + d
      · rw [if_neg (show ¬ nI (F + (to - F + d)) ≤ nI wd from nI_ge (by omega) (by omega)), if_pos (show (wd : Int) < to + (d : Int) by omega)]
        exact ⟨fun h => absurd h (show ¬ (0 : Int) ≤ -5 by decide), fun _ => ⟨_, hdone g _ _ _ _ (Or.inr (by decide))⟩⟩
      · rw [if_pos (show nI (F + (to - F + d)) ≤ nI wd from nI_le (by omega) (by omega)), if_neg (show ¬ (wd : Int) < to + (d : Int) by omega)]
        by_cases h3 : d < 64
        · rw [if_pos (show (d : Int) < 64 by omega), decide_eq_false (show ¬ (64 : Int) ≤ (d : Int) by omega), hdone g _ _ _ _ (Or.inl rfl)]
          dsimp only
          refine ⟨fun _ => ?_, fun h => by omega⟩
          rw [show ((to : Int) + (d : Int)).toNat - F = to - F + d by omega]
        · rw [if_neg (show ¬ (d : Int) < 64 by omega), decide_eq_true (show (64 : Int) ≤ (d : Int) by omega), show to - F + d = to + d - F by omega]
          exact ih (g + 1) q.2 (to + d) (by omega) (by omega) b1 (by omega) (by omega)
theorem mrn_f {wd gv : Nat} (hw : wd ≤ 10000) (hg : gv ≤ 65536) {f : Nat → Int64} {inp : Nat → Int32} (hin : inR f gv inp) {p F : Nat} (bk : Bool) (hp : p ≤ 8 * gv) (hF : F ≤ wd) :
    (0 ≤ (rnS wd bk (gb f) (8 * gv) (8 * gv - p + 1) p F).1 → f_Model_readRun wd (nI gv) inp (nI p) 1 (nI F) bk = (nI ((rnS wd bk (gb f) (8 * gv) (8 * gv - p + 1) p F).1.toNat - F), (nI (rnS wd bk (gb f) (8 * gv) (8 * gv - p + 1) p F).2, 1))) ∧
    ((rnS wd bk (gb f) (8 * gv) (8 * gv - p + 1) p F).1 < 0 → ∃ s, f_Model_readRun wd (nI gv) inp (nI p) 1 (nI F) bk = (s, (nI (rnS wd bk (gb f) (8 * gv) (8 * gv - p + 1) p F).2, iI (rnS wd bk (gb f) (8 * gv) (8 * gv - p + 1) p F).1))) := by
  have := mrn_5 hw hg hin (ps := nI p) (F := F) (bk := bk) (8 * gv - p + 1) ((if Int32.toInt 1 ≤ 0 then 0 else (8 * (nI gv).toInt - Int32.toInt (nI p)).toNat + 1) + 1) p F (by omega) (by rw [if_neg (by decide), nI_toInt (by omega), nI_toInt (by omega)]; omega) hp (Nat.le_refl _) hF
  rw [Nat.sub_self] at this
  exact this
