/-! truth values, numbers, shapes -/
def b2 (c : Prop) [Decidable c] : Int32 := if c then 1 else 0
theorem b2_t {c : Prop} [Decidable c] (h : c) : (1 : Int32) = b2 c := by simp [b2, h]
theorem b2_f {c : Prop} [Decidable c] (h : ¬ c) : (0 : Int32) = b2 c := by simp [b2, h]
theorem b2_z {c : Prop} [Decidable c] : b2 c = 0 ↔ ¬ c := by unfold b2; split <;> simp_all
theorem b2_nz {c : Prop} [Decidable c] : ¬ b2 c = 0 ↔ c := by unfold b2; split <;> simp_all
theorem b2_c {c d : Prop} [Decidable c] [Decidable d] (h : c ↔ d) : b2 c = b2 d := by simp [b2, h]
theorem nb_b2 (c : Prop) [Decidable c] : narrow .boolean (.int (b2 c)) = .int (b2 c) := by unfold b2; split <;> rfl
theorem fb_b2 (c : Prop) [Decidable c] : fits .boolean (.int (b2 c)) = true := by unfold b2; split <;> rfl
theorem nI_p1 (n : Nat) : nI n + Int32.ofInt 1 = nI (n + 1) := nI_1 n
theorem sw_split (x : Int32) (lo hi : Int) (n : Nat) (hn : hi = lo + n - 1) : (x.toInt < lo ∨ hi < x.toInt) ∨ ∃ j : Nat, j < n ∧ x = Int32.ofInt (lo + j) := by
  by_cases h1 : x.toInt < lo
  · exact Or.inl (Or.inl h1)
  · by_cases h2 : hi < x.toInt
    · exact Or.inl (Or.inr h2)
    · refine Or.inr ⟨(x.toInt - lo).toNat, by omega, ?_⟩
      have h3 : lo + ((x.toInt - lo).toNat : Int) = x.toInt := by omega
      rw [h3, Int32.ofInt_toInt]
def isE (e : Nat) : Prop := e = 13 ∨ e = 25 ∨ e = 37
theorem h13 : isE 13 := Or.inl rfl
theorem h25 : isE 25 := Or.inr (Or.inl rfl)
theorem h37 : isE 37 := Or.inr (Or.inr rfl)
theorem sh_e {e : Nat} (h : isE e) : sh e = .inr (.inl (0, empF e)) := by rcases h with rfl | rfl | rfl <;> rfl
theorem sh_e1 {e : Nat} (h : isE e) : sh (e + 1) = .inl 12 := by rcases h with rfl | rfl | rfl <;> rfl
theorem sh_e2 {e : Nat} (h : isE e) : sh (e + 2) = .inl 12 := by rcases h with rfl | rfl | rfl <;> rfl
theorem sh_e3 {e : Nat} (h : isE e) : sh (e + 3) = .inl 12 := by rcases h with rfl | rfl | rfl <;> rfl
theorem sh_e4 {e : Nat} (h : isE e) : sh (e + 4) = .inl 12 := by rcases h with rfl | rfl | rfl <;> rfl
theorem sh_e5 {e : Nat} (h : isE e) : sh (e + 5) = .inl 12 := by rcases h with rfl | rfl | rfl <;> rfl
theorem sh_e6 {e : Nat} (h : isE e) : sh (e + 6) = .inl 12 := by rcases h with rfl | rfl | rfl <;> rfl
theorem sh_e7 {e : Nat} (h : isE e) : sh (e + 7) = .inl 12 := by rcases h with rfl | rfl | rfl <;> rfl
theorem sh_e8 {e : Nat} (h : isE e) : sh (e + 8) = .inl 8 := by rcases h with rfl | rfl | rfl <;> rfl
theorem sh_e9 {e : Nat} (h : isE e) : sh (e + 9) = .inl 8 := by rcases h with rfl | rfl | rfl <;> rfl
theorem sh_e10 {e : Nat} (h : isE e) : sh (e + 10) = .inl 3 := by rcases h with rfl | rfl | rfl <;> rfl
theorem sh_e11 {e : Nat} (h : isE e) : sh (e + 11) = .inl 10 := by rcases h with rfl | rfl | rfl <;> rfl
theorem sh_s {k : Nat} (h : k < 4) : sh (5 + k) = .inr (.inl (1, [some (9 + k), none, none])) := by
  match k, h with
  | 0, _ => rfl
  | 1, _ => rfl
  | 2, _ => rfl
  | 3, _ => rfl
  | k + 4, h => exact absurd h (by omega)
theorem sh_n {k : Nat} (h : k < 4) : sh (9 + k) = .inl 40 := by
  match k, h with
  | 0, _ => rfl
  | 1, _ => rfl
  | 2, _ => rfl
  | 3, _ => rfl
  | k + 4, h => exact absurd h (by omega)
theorem z_X3_seats : zokV yX3_seats RX3 cX3_seats 4 (some .int) 2 := ⟨⟨by decide +kernel, by decide +kernel, by decide +kernel, by decide +kernel⟩, wi_X3_seats, wx_X3_seats, wz_X3, wc_X3_seats⟩
theorem z_X3_isRank : zokS yX3_isRank cX3_isRank 1 (some .boolean) 1 := ⟨⟨by decide +kernel, by decide +kernel, by decide +kernel⟩, wt_X3_isRank, wz_X3, wc_X3_isRank⟩
theorem z_X3_isWithin : zokS yX3_isWithin cX3_isWithin 3 (some .boolean) 3 := ⟨⟨by decide +kernel, by decide +kernel, by decide +kernel⟩, wt_X3_isWithin, wz_X3, wc_X3_isWithin⟩
theorem z_X3_found : zokV yX3_found RX3 cX3_found 3 (some .int) 1 := ⟨⟨by decide +kernel, by decide +kernel, by decide +kernel, by decide +kernel⟩, wi_X3_found, wx_X3_found, wz_X3, wc_X3_found⟩
theorem z_X0_sizeOf : zokV yX0_sizeOf RX0 cX0_sizeOf 2 (some .int) 1 := ⟨⟨by decide +kernel, by decide +kernel, by decide +kernel, by decide +kernel⟩, wi_X0_sizeOf, wx_X0_sizeOf, wz_X0, wc_X0_sizeOf⟩
theorem z_J6_bitCount_0f7a4 : zokS yJ6_bitCount_0f7a4 cJ6_bitCount_0f7a4 1 (some .int) 1 := ⟨⟨by decide +kernel, by decide +kernel, by decide +kernel⟩, wt_J6_bitCount_0f7a4, wz_J6, wc_J6_bitCount_0f7a4⟩
theorem z_X3_rankOf : zokV yX3_rankOf RX3 cX3_rankOf 3 (some .int) 2 := ⟨⟨by decide +kernel, by decide +kernel, by decide +kernel, by decide +kernel⟩, wi_X3_rankOf, wx_X3_rankOf, wz_X3, wc_X3_rankOf⟩
theorem z_X0_counting : zokV yX0_counting RX0 cX0_counting 3 (some .int) 0 := ⟨⟨by decide +kernel, by decide +kernel, by decide +kernel, by decide +kernel⟩, wi_X0_counting, wx_X0_counting, wz_X0, wc_X0_counting⟩
theorem z_X0_goldOf : zokV yX0_goldOf RX0 cX0_goldOf 4 (some .int) 1 := ⟨⟨by decide +kernel, by decide +kernel, by decide +kernel, by decide +kernel⟩, wi_X0_goldOf, wx_X0_goldOf, wz_X0, wc_X0_goldOf⟩
theorem z_X3_law : zokV yX3_law RX3 cX3_law 4 (some .int) 2 := ⟨⟨by decide +kernel, by decide +kernel, by decide +kernel, by decide +kernel⟩, wi_X3_law, wx_X3_law, wz_X3, wc_X3_law⟩
theorem z_X3_person : zokV yX3_person RX3 cX3_person 3 (some .int) 2 := ⟨⟨by decide +kernel, by decide +kernel, by decide +kernel, by decide +kernel⟩, wi_X3_person, wx_X3_person, wz_X3, wc_X3_person⟩
theorem z_X3_isKind : zokS yX3_isKind cX3_isKind 1 (some .boolean) 1 := ⟨⟨by decide +kernel, by decide +kernel, by decide +kernel⟩, wt_X3_isKind, wz_X3, wc_X3_isKind⟩
theorem z_X0_hasFree : zokV yX0_hasFree RX0 cX0_hasFree 2 (some .boolean) 1 := ⟨⟨by decide +kernel, by decide +kernel, by decide +kernel, by decide +kernel⟩, wi_X0_hasFree, wx_X0_hasFree, wz_X0, wc_X0_hasFree⟩
theorem z_X0_addOne : zokV yX0_addOne RX0 cX0_addOne 4 (some .int) 2 := ⟨⟨by decide +kernel, by decide +kernel, by decide +kernel, by decide +kernel⟩, wi_X0_addOne, wx_X0_addOne, wz_X0, wc_X0_addOne⟩
theorem z_X0_moveTo : zokV yX0_moveTo RX0 cX0_moveTo 4 none 2 := ⟨⟨by decide +kernel, by decide +kernel, by decide +kernel, by decide +kernel⟩, wi_X0_moveTo, wx_X0_moveTo, wz_X0, wc_X0_moveTo⟩
theorem z_X3_of : zokV yX3_of RX3 cX3_of 3 (some .int) 2 := ⟨⟨by decide +kernel, by decide +kernel, by decide +kernel, by decide +kernel⟩, wi_X3_of, wx_X3_of, wz_X3, wc_X3_of⟩
theorem z_X0_has : zokV yX0_has RX0 cX0_has 2 (some .boolean) 1 := ⟨⟨by decide +kernel, by decide +kernel, by decide +kernel, by decide +kernel⟩, wi_X0_has, wx_X0_has, wz_X0, wc_X0_has⟩
theorem z_X3_change : zokV yX3_change RX3 cX3_change 4 (some .int) 3 := ⟨⟨by decide +kernel, by decide +kernel, by decide +kernel, by decide +kernel⟩, wi_X3_change, wx_X3_change, wz_X3, wc_X3_change⟩
theorem z_X3_replaced : zokV yX3_replaced RX3 cX3_replaced 6 (some .int) 4 := ⟨⟨by decide +kernel, by decide +kernel, by decide +kernel, by decide +kernel⟩, wi_X3_replaced, wx_X3_replaced, wz_X3, wc_X3_replaced⟩
theorem z_X3_grudge : zokV yX3_grudge RX3 cX3_grudge 4 (some .int) 2 := ⟨⟨by decide +kernel, by decide +kernel, by decide +kernel, by decide +kernel⟩, wi_X3_grudge, wx_X3_grudge, wz_X3, wc_X3_grudge⟩
theorem z_X0_hasOrNobody : zokV yX0_hasOrNobody RX0 cX0_hasOrNobody 2 (some .boolean) 1 := ⟨⟨by decide +kernel, by decide +kernel, by decide +kernel, by decide +kernel⟩, wi_X0_hasOrNobody, wx_X0_hasOrNobody, wz_X0, wc_X0_hasOrNobody⟩
theorem z_X0_resent : zokV yX0_resent RX0 cX0_resent 3 none 2 := ⟨⟨by decide +kernel, by decide +kernel, by decide +kernel, by decide +kernel⟩, wi_X0_resent, wx_X0_resent, wz_X0, wc_X0_resent⟩
theorem z_X3_put : zokV yX3_put RX3 cX3_put 6 (some .int) 2 := ⟨⟨by decide +kernel, by decide +kernel, by decide +kernel, by decide +kernel⟩, wi_X3_put, wx_X3_put, wz_X3, wc_X3_put⟩
theorem z_X3_gift : zokV yX3_gift RX3 cX3_gift 3 (some .int) 2 := ⟨⟨by decide +kernel, by decide +kernel, by decide +kernel, by decide +kernel⟩, wi_X3_gift, wx_X3_gift, wz_X3, wc_X3_gift⟩
theorem z_X0_canTake : zokV yX0_canTake RX0 cX0_canTake 4 (some .boolean) 2 := ⟨⟨by decide +kernel, by decide +kernel, by decide +kernel, by decide +kernel⟩, wi_X0_canTake, wx_X0_canTake, wz_X0, wc_X0_canTake⟩
theorem z_X0_take : zokV yX0_take RX0 cX0_take 4 none 2 := ⟨⟨by decide +kernel, by decide +kernel, by decide +kernel, by decide +kernel⟩, wi_X0_take, wx_X0_take, wz_X0, wc_X0_take⟩
theorem z_X3_exchange : zokV yX3_exchange RX3 cX3_exchange 5 (some .int) 2 := ⟨⟨by decide +kernel, by decide +kernel, by decide +kernel, by decide +kernel⟩, wi_X3_exchange, wx_X3_exchange, wz_X3, wc_X3_exchange⟩
theorem z_X3_wants : zokV yX3_wants RX3 cX3_wants 3 (some .int) 2 := ⟨⟨by decide +kernel, by decide +kernel, by decide +kernel, by decide +kernel⟩, wi_X3_wants, wx_X3_wants, wz_X3, wc_X3_wants⟩
theorem z_X0_isWanting : zokV yX0_isWanting RX0 cX0_isWanting 3 (some .boolean) 2 := ⟨⟨by decide +kernel, by decide +kernel, by decide +kernel, by decide +kernel⟩, wi_X0_isWanting, wx_X0_isWanting, wz_X0, wc_X0_isWanting⟩
theorem z_X0_besides : zokV yX0_besides RX0 cX0_besides 2 (some .int) 1 := ⟨⟨by decide +kernel, by decide +kernel, by decide +kernel, by decide +kernel⟩, wi_X0_besides, wx_X0_besides, wz_X0, wc_X0_besides⟩
theorem z_X0_mostBy : zokV yX0_mostBy RX0 cX0_mostBy 5 (some .int) 2 := ⟨⟨by decide +kernel, by decide +kernel, by decide +kernel, by decide +kernel⟩, wi_X0_mostBy, wx_X0_mostBy, wz_X0, wc_X0_mostBy⟩
theorem z_X0_isElderTwoAbove : zokV yX0_isElderTwoAbove RX0 cX0_isElderTwoAbove 3 (some .boolean) 2 := ⟨⟨by decide +kernel, by decide +kernel, by decide +kernel, by decide +kernel⟩, wi_X0_isElderTwoAbove, wx_X0_isElderTwoAbove, wz_X0, wc_X0_isElderTwoAbove⟩
theorem z_X3_against : zokV yX3_against RX3 cX3_against 2 (some .int) 1 := ⟨⟨by decide +kernel, by decide +kernel, by decide +kernel, by decide +kernel⟩, wi_X3_against, wx_X3_against, wz_X3, wc_X3_against⟩
theorem z_X0_judgesOf : zokV yX0_judgesOf RX0 cX0_judgesOf 4 (some .int) 2 := ⟨⟨by decide +kernel, by decide +kernel, by decide +kernel, by decide +kernel⟩, wi_X0_judgesOf, wx_X0_judgesOf, wz_X0, wc_X0_judgesOf⟩
theorem z_X0_wanting : zokV yX0_wanting RX0 cX0_wanting 5 (some .int) 2 := ⟨⟨by decide +kernel, by decide +kernel, by decide +kernel, by decide +kernel⟩, wi_X0_wanting, wx_X0_wanting, wz_X0, wc_X0_wanting⟩
theorem z_X3_lacks : zokV yX3_lacks RX3 cX3_lacks 6 (some .int) 1 := ⟨⟨by decide +kernel, by decide +kernel, by decide +kernel, by decide +kernel⟩, wi_X3_lacks, wx_X3_lacks, wz_X3, wc_X3_lacks⟩
theorem z_X0_isEnough : zokV yX0_isEnough RX0 cX0_isEnough 3 (some .boolean) 2 := ⟨⟨by decide +kernel, by decide +kernel, by decide +kernel, by decide +kernel⟩, wi_X0_isEnough, wx_X0_isEnough, wz_X0, wc_X0_isEnough⟩
theorem z_X3_tremble : zokV yX3_tremble RX3 cX3_tremble 1 (some .int) 0 := ⟨⟨by decide +kernel, by decide +kernel, by decide +kernel, by decide +kernel⟩, wi_X3_tremble, wx_X3_tremble, wz_X3, wc_X3_tremble⟩
theorem z_X0_falling : zokV yX0_falling RX0 cX0_falling 5 (some .int) 0 := ⟨⟨by decide +kernel, by decide +kernel, by decide +kernel, by decide +kernel⟩, wi_X0_falling, wx_X0_falling, wz_X0, wc_X0_falling⟩
theorem z_X3_heir : zokV yX3_heir RX3 cX3_heir 3 (some .int) 1 := ⟨⟨by decide +kernel, by decide +kernel, by decide +kernel, by decide +kernel⟩, wi_X3_heir, wx_X3_heir, wz_X3, wc_X3_heir⟩
theorem z_X0_firstByLaw : zokV yX0_firstByLaw RX0 cX0_firstByLaw 2 (some .int) 1 := ⟨⟨by decide +kernel, by decide +kernel, by decide +kernel, by decide +kernel⟩, wi_X0_firstByLaw, wx_X0_firstByLaw, wz_X0, wc_X0_firstByLaw⟩
theorem z_X0_leastOf : zokV yX0_leastOf RX0 cX0_leastOf 3 (some .int) 1 := ⟨⟨by decide +kernel, by decide +kernel, by decide +kernel, by decide +kernel⟩, wi_X0_leastOf, wx_X0_leastOf, wz_X0, wc_X0_leastOf⟩
theorem z_X3_months : zokV yX3_months RX3 cX3_months 2 (some .int) 1 := ⟨⟨by decide +kernel, by decide +kernel, by decide +kernel, by decide +kernel⟩, wi_X3_months, wx_X3_months, wz_X3, wc_X3_months⟩
theorem z_X3_isTooLate : zokV yX3_isTooLate RX3 cX3_isTooLate 2 (some .boolean) 1 := ⟨⟨by decide +kernel, by decide +kernel, by decide +kernel, by decide +kernel⟩, wi_X3_isTooLate, wx_X3_isTooLate, wz_X3, wc_X3_isTooLate⟩
theorem z_X0_pass : zokV yX0_pass RX0 cX0_pass 4 (some .int) 1 := ⟨⟨by decide +kernel, by decide +kernel, by decide +kernel, by decide +kernel⟩, wi_X0_pass, wx_X0_pass, wz_X0, wc_X0_pass⟩
theorem z_X0_goMonth : zokV yX0_goMonth RX0 cX0_goMonth 1 none 0 := ⟨⟨by decide +kernel, by decide +kernel, by decide +kernel, by decide +kernel⟩, wi_X0_goMonth, wx_X0_goMonth, wz_X0, wc_X0_goMonth⟩
theorem z_X0_turnOut : zokV yX0_turnOut RX0 cX0_turnOut 3 none 1 := ⟨⟨by decide +kernel, by decide +kernel, by decide +kernel, by decide +kernel⟩, wi_X0_turnOut, wx_X0_turnOut, wz_X0, wc_X0_turnOut⟩
theorem z_X0_fillSeats : zokV yX0_fillSeats RX0 cX0_fillSeats 4 none 0 := ⟨⟨by decide +kernel, by decide +kernel, by decide +kernel, by decide +kernel⟩, wi_X0_fillSeats, wx_X0_fillSeats, wz_X0, wc_X0_fillSeats⟩
theorem z_X0_pay : zokV yX0_pay RX0 cX0_pay 2 none 0 := ⟨⟨by decide +kernel, by decide +kernel, by decide +kernel, by decide +kernel⟩, wi_X0_pay, wx_X0_pay, wz_X0, wc_X0_pay⟩
theorem z_J9_min_7cf53 : zokS yJ9_min_7cf53 cJ9_min_7cf53 2 (some .int) 2 := ⟨⟨by decide +kernel, by decide +kernel, by decide +kernel⟩, wt_J9_min_7cf53, wz_J9, wc_J9_min_7cf53⟩
theorem z_X0_growOlder : zokV yX0_growOlder RX0 cX0_growOlder 2 none 0 := ⟨⟨by decide +kernel, by decide +kernel, by decide +kernel, by decide +kernel⟩, wi_X0_growOlder, wx_X0_growOlder, wz_X0, wc_X0_growOlder⟩
theorem z_X3_ahead : zokV yX3_ahead RX3 cX3_ahead 4 (some .int) 2 := ⟨⟨by decide +kernel, by decide +kernel, by decide +kernel, by decide +kernel⟩, wi_X3_ahead, wx_X3_ahead, wz_X3, wc_X3_ahead⟩
theorem z_X0_becomeLike : zokV yX0_becomeLike RX0 cX0_becomeLike 2 none 1 := ⟨⟨by decide +kernel, by decide +kernel, by decide +kernel, by decide +kernel⟩, wi_X0_becomeLike, wx_X0_becomeLike, wz_X0, wc_X0_becomeLike⟩
theorem z_X0_thoseOut : zokV yX0_thoseOut RX0 cX0_thoseOut 3 (some .int) 0 := ⟨⟨by decide +kernel, by decide +kernel, by decide +kernel, by decide +kernel⟩, wi_X0_thoseOut, wx_X0_thoseOut, wz_X0, wc_X0_thoseOut⟩
theorem z_X0_all : zokV yX0_all RX0 cX0_all 1 (some .int) 0 := ⟨⟨by decide +kernel, by decide +kernel, by decide +kernel, by decide +kernel⟩, wi_X0_all, wx_X0_all, wz_X0, wc_X0_all⟩
theorem z_X3_sits : zokV yX3_sits RX3 cX3_sits 3 (some .int) 1 := ⟨⟨by decide +kernel, by decide +kernel, by decide +kernel, by decide +kernel⟩, wi_X3_sits, wx_X3_sits, wz_X3, wc_X3_sits⟩
theorem z_X3_rises : zokV yX3_rises RX3 cX3_rises 5 (some .int) 2 := ⟨⟨by decide +kernel, by decide +kernel, by decide +kernel, by decide +kernel⟩, wi_X3_rises, wx_X3_rises, wz_X3, wc_X3_rises⟩
theorem z_X0_standingOf : zokV yX0_standingOf RX0 cX0_standingOf 2 (some .int) 1 := ⟨⟨by decide +kernel, by decide +kernel, by decide +kernel, by decide +kernel⟩, wi_X0_standingOf, wx_X0_standingOf, wz_X0, wc_X0_standingOf⟩
theorem z_X3_worth : zokV yX3_worth RX3 cX3_worth 4 (some .int) 3 := ⟨⟨by decide +kernel, by decide +kernel, by decide +kernel, by decide +kernel⟩, wi_X3_worth, wx_X3_worth, wz_X3, wc_X3_worth⟩
theorem z_X3_least : zokV yX3_least RX3 cX3_least 5 (some .int) 2 := ⟨⟨by decide +kernel, by decide +kernel, by decide +kernel, by decide +kernel⟩, wi_X3_least, wx_X3_least, wz_X3, wc_X3_least⟩
theorem z_X0_keeps : zokV yX0_keeps RX0 cX0_keeps 4 (some .boolean) 2 := ⟨⟨by decide +kernel, by decide +kernel, by decide +kernel, by decide +kernel⟩, wi_X0_keeps, wx_X0_keeps, wz_X0, wc_X0_keeps⟩
theorem z_X3_best : zokV yX3_best RX3 cX3_best 6 (some .int) 2 := ⟨⟨by decide +kernel, by decide +kernel, by decide +kernel, by decide +kernel⟩, wi_X3_best, wx_X3_best, wz_X3, wc_X3_best⟩
theorem z_X3_partsFor : zokV yX3_partsFor RX3 cX3_partsFor 6 (some .int) 1 := ⟨⟨by decide +kernel, by decide +kernel, by decide +kernel, by decide +kernel⟩, wi_X3_partsFor, wx_X3_partsFor, wz_X3, wc_X3_partsFor⟩
theorem z_X3_kindFor : zokV yX3_kindFor RX3 cX3_kindFor 6 (some .int) 2 := ⟨⟨by decide +kernel, by decide +kernel, by decide +kernel, by decide +kernel⟩, wi_X3_kindFor, wx_X3_kindFor, wz_X3, wc_X3_kindFor⟩
theorem z_X3_plot : zokV yX3_plot RX3 cX3_plot 7 (some .int) 2 := ⟨⟨by decide +kernel, by decide +kernel, by decide +kernel, by decide +kernel⟩, wi_X3_plot, wx_X3_plot, wz_X3, wc_X3_plot⟩
theorem z_X0_ableToPlot : zokV yX0_ableToPlot RX0 cX0_ableToPlot 3 (some .int) 0 := ⟨⟨by decide +kernel, by decide +kernel, by decide +kernel, by decide +kernel⟩, wi_X0_ableToPlot, wx_X0_ableToPlot, wz_X0, wc_X0_ableToPlot⟩
theorem z_X3_isOfKind : zokS yX3_isOfKind cX3_isOfKind 4 (some .boolean) 2 := ⟨⟨by decide +kernel, by decide +kernel, by decide +kernel⟩, wt_X3_isOfKind, wz_X3, wc_X3_isOfKind⟩
theorem z_X3_leastPlot : zokV yX3_leastPlot RX3 cX3_leastPlot 6 (some .int) 4 := ⟨⟨by decide +kernel, by decide +kernel, by decide +kernel, by decide +kernel⟩, wi_X3_leastPlot, wx_X3_leastPlot, wz_X3, wc_X3_leastPlot⟩
theorem z_X0_resentAll : zokV yX0_resentAll RX0 cX0_resentAll 4 none 2 := ⟨⟨by decide +kernel, by decide +kernel, by decide +kernel, by decide +kernel⟩, wi_X0_resentAll, wx_X0_resentAll, wz_X0, wc_X0_resentAll⟩
theorem z_X3_undo : zokV yX3_undo RX3 cX3_undo 5 (some .int) 2 := ⟨⟨by decide +kernel, by decide +kernel, by decide +kernel, by decide +kernel⟩, wi_X3_undo, wx_X3_undo, wz_X3, wc_X3_undo⟩
theorem z_X3_safe : zokV yX3_safe RX3 cX3_safe 5 (some .int) 0 := ⟨⟨by decide +kernel, by decide +kernel, by decide +kernel, by decide +kernel⟩, wi_X3_safe, wx_X3_safe, wz_X3, wc_X3_safe⟩
theorem z_X0_howManyMayWant : zokV yX0_howManyMayWant RX0 cX0_howManyMayWant 6 (some .int) 2 := ⟨⟨by decide +kernel, by decide +kernel, by decide +kernel, by decide +kernel⟩, wi_X0_howManyMayWant, wx_X0_howManyMayWant, wz_X0, wc_X0_howManyMayWant⟩
theorem z_X3_rumours : zokV yX3_rumours RX3 cX3_rumours 5 (some .int) 1 := ⟨⟨by decide +kernel, by decide +kernel, by decide +kernel, by decide +kernel⟩, wi_X3_rumours, wx_X3_rumours, wz_X3, wc_X3_rumours⟩
theorem z_X0_drawPerson : zokV yX0_drawPerson RX0 cX0_drawPerson 1 (some .int) 0 := ⟨⟨by decide +kernel, by decide +kernel, by decide +kernel, by decide +kernel⟩, wi_X0_drawPerson, wx_X0_drawPerson, wz_X0, wc_X0_drawPerson⟩
theorem z_X0_withGrudge : zokV yX0_withGrudge RX0 cX0_withGrudge 3 (some .int) 0 := ⟨⟨by decide +kernel, by decide +kernel, by decide +kernel, by decide +kernel⟩, wi_X0_withGrudge, wx_X0_withGrudge, wz_X0, wc_X0_withGrudge⟩
theorem z_X3_seed : zokV yX3_seed RX3 cX3_seed 3 (some .int) 1 := ⟨⟨by decide +kernel, by decide +kernel, by decide +kernel, by decide +kernel⟩, wi_X3_seed, wx_X3_seed, wz_X3, wc_X3_seed⟩
theorem z_X3_feed : zokV yX3_feed RX3 cX3_feed 4 (some .int) 2 := ⟨⟨by decide +kernel, by decide +kernel, by decide +kernel, by decide +kernel⟩, wi_X3_feed, wx_X3_feed, wz_X3, wc_X3_feed⟩
theorem z_X3_wipe : zokV yX3_wipe RX3 cX3_wipe 2 (some .int) 0 := ⟨⟨by decide +kernel, by decide +kernel, by decide +kernel, by decide +kernel⟩, wi_X3_wipe, wx_X3_wipe, wz_X3, wc_X3_wipe⟩
theorem z_X3_text : zokV yX3_text RX3 cX3_text 2 (some .int) 0 := ⟨⟨by decide +kernel, by decide +kernel, by decide +kernel, by decide +kernel⟩, wi_X3_text, wx_X3_text, wz_X3, wc_X3_text⟩
theorem z_X2_tell : zokV yX2_tell RX2 cX2_tell 3 (some .int) 1 := ⟨⟨by decide +kernel, by decide +kernel, by decide +kernel, by decide +kernel⟩, wi_X2_tell, wx_X2_tell, wz_X2, wc_X2_tell⟩
theorem z_X2_next : zokV yX2_next RX2 cX2_next 2 none 0 := ⟨⟨by decide +kernel, by decide +kernel, by decide +kernel, by decide +kernel⟩, wi_X2_next, wx_X2_next, wz_X2, wc_X2_next⟩
theorem z_X2_sortAt : zokV yX2_sortAt RX2 cX2_sortAt 3 (some .int) 1 := ⟨⟨by decide +kernel, by decide +kernel, by decide +kernel, by decide +kernel⟩, wi_X2_sortAt, wx_X2_sortAt, wz_X2, wc_X2_sortAt⟩
theorem z_X2_valueTold : zokV yX2_valueTold RX2 cX2_valueTold 3 (some .int) 0 := ⟨⟨by decide +kernel, by decide +kernel, by decide +kernel, by decide +kernel⟩, wi_X2_valueTold, wx_X2_valueTold, wz_X2, wc_X2_valueTold⟩
theorem z_X2_tellItem : zokV yX2_tellItem RX2 cX2_tellItem 4 (some .boolean) 1 := ⟨⟨by decide +kernel, by decide +kernel, by decide +kernel, by decide +kernel⟩, wi_X2_tellItem, wx_X2_tellItem, wz_X2, wc_X2_tellItem⟩
theorem z_X2_isWord : zokV yX2_isWord RX2 cX2_isWord 3 (some .boolean) 1 := ⟨⟨by decide +kernel, by decide +kernel, by decide +kernel, by decide +kernel⟩, wi_X2_isWord, wx_X2_isWord, wz_X2, wc_X2_isWord⟩
theorem z_J0_length_8abf5 : zokV yJ0_length_8abf5 RJ0 cJ0_length_8abf5 1 (some .int) 0 := ⟨⟨by decide +kernel, by decide +kernel, by decide +kernel, by decide +kernel⟩, wi_J0_length_8abf5, wx_J0_length_8abf5, wz_J0, wc_J0_length_8abf5⟩
theorem z_J0_coder_7d493 : zokV yJ0_coder_7d493 RJ0 cJ0_coder_7d493 1 (some .byte) 0 := ⟨⟨by decide +kernel, by decide +kernel, by decide +kernel, by decide +kernel⟩, wi_J0_coder_7d493, wx_J0_coder_7d493, wz_J0, wc_J0_coder_7d493⟩
theorem z_J0_charAt_5068e : zokV yJ0_charAt_5068e RJ0 cJ0_charAt_5068e 2 (some .char) 1 := ⟨⟨by decide +kernel, by decide +kernel, by decide +kernel, by decide +kernel⟩, wi_J0_charAt_5068e, wx_J0_charAt_5068e, wz_J0, wc_J0_charAt_5068e⟩
theorem z_J0_isLatin1_aae02 : zokV yJ0_isLatin1_aae02 RJ0 cJ0_isLatin1_aae02 1 (some .boolean) 0 := ⟨⟨by decide +kernel, by decide +kernel, by decide +kernel, by decide +kernel⟩, wi_J0_isLatin1_aae02, wx_J0_isLatin1_aae02, wz_J0, wc_J0_isLatin1_aae02⟩
theorem z_J1_charAt_3b067 : zokS yJ1_charAt_3b067 cJ1_charAt_3b067 2 (some .char) 2 := ⟨⟨by decide +kernel, by decide +kernel, by decide +kernel⟩, wt_J1_charAt_3b067, wz_J1, wc_J1_charAt_3b067⟩
theorem z_J0_checkIndex_df160 : zokS yJ0_checkIndex_df160 cJ0_checkIndex_df160 2 none 2 := ⟨⟨by decide +kernel, by decide +kernel, by decide +kernel⟩, wt_J0_checkIndex_df160, wz_J0, wc_J0_checkIndex_df160⟩
theorem z_J3_checkIndex_8e157 : zokS yJ3_checkIndex_8e157 cJ3_checkIndex_8e157 3 (some .int) 3 := ⟨⟨by decide +kernel, by decide +kernel, by decide +kernel⟩, wt_J3_checkIndex_8e157, wz_J3, wc_J3_checkIndex_8e157⟩
theorem z_J2_charAt_3b067 : zokS yJ2_charAt_3b067 cJ2_charAt_3b067 2 (some .char) 2 := ⟨⟨by decide +kernel, by decide +kernel, by decide +kernel⟩, wt_J2_charAt_3b067, wz_J2, wc_J2_charAt_3b067⟩
theorem z_J2_checkIndex_2214a : zokS yJ2_checkIndex_2214a cJ2_checkIndex_2214a 2 none 2 := ⟨⟨by decide +kernel, by decide +kernel, by decide +kernel⟩, wt_J2_checkIndex_2214a, wz_J2, wc_J2_checkIndex_2214a⟩
theorem z_J2_length_9d52b : zokS yJ2_length_9d52b cJ2_length_9d52b 1 (some .int) 1 := ⟨⟨by decide +kernel, by decide +kernel, by decide +kernel⟩, wt_J2_length_9d52b, wz_J2, wc_J2_length_9d52b⟩
theorem z_J2_getChar_3b067 : zokS yJ2_getChar_3b067 cJ2_getChar_3b067 2 (some .char) 2 := ⟨⟨by decide +kernel, by decide +kernel, by decide +kernel⟩, wt_J2_getChar_3b067, wz_J2, wc_J2_getChar_3b067⟩
theorem z_X2_tellRank : zokV yX2_tellRank RX2 cX2_tellRank 3 (some .boolean) 1 := ⟨⟨by decide +kernel, by decide +kernel, by decide +kernel, by decide +kernel⟩, wi_X2_tellRank, wx_X2_tellRank, wz_X2, wc_X2_tellRank⟩
theorem z_X2_isNumber : zokV yX2_isNumber RX2 cX2_isNumber 3 (some .boolean) 2 := ⟨⟨by decide +kernel, by decide +kernel, by decide +kernel, by decide +kernel⟩, wi_X2_isNumber, wx_X2_isNumber, wz_X2, wc_X2_isNumber⟩
theorem z_X2_tellNumber : zokV yX2_tellNumber RX2 cX2_tellNumber 5 (some .boolean) 4 := ⟨⟨by decide +kernel, by decide +kernel, by decide +kernel, by decide +kernel⟩, wi_X2_tellNumber, wx_X2_tellNumber, wz_X2, wc_X2_tellNumber⟩
theorem z_X2_lawTold : zokV yX2_lawTold RX2 cX2_lawTold 1 (some .int) 0 := ⟨⟨by decide +kernel, by decide +kernel, by decide +kernel, by decide +kernel⟩, wi_X2_lawTold, wx_X2_lawTold, wz_X2, wc_X2_lawTold⟩
theorem z_X2_kindTold : zokV yX2_kindTold RX2 cX2_kindTold 1 (some .int) 0 := ⟨⟨by decide +kernel, by decide +kernel, by decide +kernel, by decide +kernel⟩, wi_X2_kindTold, wx_X2_kindTold, wz_X2, wc_X2_kindTold⟩
theorem z_X2_tellPerson : zokV yX2_tellPerson RX2 cX2_tellPerson 4 (some .boolean) 2 := ⟨⟨by decide +kernel, by decide +kernel, by decide +kernel, by decide +kernel⟩, wi_X2_tellPerson, wx_X2_tellPerson, wz_X2, wc_X2_tellPerson⟩
theorem z_X2_tellDetail : zokV yX2_tellDetail RX2 cX2_tellDetail 5 (some .boolean) 4 := ⟨⟨by decide +kernel, by decide +kernel, by decide +kernel, by decide +kernel⟩, wi_X2_tellDetail, wx_X2_tellDetail, wz_X2, wc_X2_tellDetail⟩
theorem z_X3_hold : zokV yX3_hold RX3 cX3_hold 3 (some .int) 2 := ⟨⟨by decide +kernel, by decide +kernel, by decide +kernel, by decide +kernel⟩, wi_X3_hold, wx_X3_hold, wz_X3, wc_X3_hold⟩
theorem z_X3_as : zokV yX3_as RX3 cX3_as 4 (some .int) 2 := ⟨⟨by decide +kernel, by decide +kernel, by decide +kernel, by decide +kernel⟩, wi_X3_as, wx_X3_as, wz_X3, wc_X3_as⟩
theorem z_X3_sheet : zokV yX3_sheet RX3 cX3_sheet 5 (some .int) 3 := ⟨⟨by decide +kernel, by decide +kernel, by decide +kernel, by decide +kernel⟩, wi_X3_sheet, wx_X3_sheet, wz_X3, wc_X3_sheet⟩
theorem z_X3_sheetAt : zokV yX3_sheetAt RX3 cX3_sheetAt 2 (some (.object "TwoBelow$Sheet")) 1 := ⟨⟨by decide +kernel, by decide +kernel, by decide +kernel, by decide +kernel⟩, wi_X3_sheetAt, wx_X3_sheetAt, wz_X3, wc_X3_sheetAt⟩
theorem z_X1_begin : zokV yX1_begin RX1 cX1_begin 4 none 2 := ⟨⟨by decide +kernel, by decide +kernel, by decide +kernel, by decide +kernel⟩, wi_X1_begin, wx_X1_begin, wz_X1, wc_X1_begin⟩
theorem z_X3_write : zokV yX3_write RX3 cX3_write 5 (some .int) 3 := ⟨⟨by decide +kernel, by decide +kernel, by decide +kernel, by decide +kernel⟩, wi_X3_write, wx_X3_write, wz_X3, wc_X3_write⟩
theorem z_X1_isMissing : zokV yX1_isMissing RX1 cX1_isMissing 1 (some .boolean) 0 := ⟨⟨by decide +kernel, by decide +kernel, by decide +kernel, by decide +kernel⟩, wi_X1_isMissing, wx_X1_isMissing, wz_X1, wc_X1_isMissing⟩
theorem z_X1_cut : zokV yX1_cut RX1 cX1_cut 2 (some .int) 1 := ⟨⟨by decide +kernel, by decide +kernel, by decide +kernel, by decide +kernel⟩, wi_X1_cut, wx_X1_cut, wz_X1, wc_X1_cut⟩
theorem z_X3_copy : zokV yX3_copy RX3 cX3_copy 8 (some .int) 5 := ⟨⟨by decide +kernel, by decide +kernel, by decide +kernel, by decide +kernel⟩, wi_X3_copy, wx_X3_copy, wz_X3, wc_X3_copy⟩
theorem z_X1_hasRow : zokV yX1_hasRow RX1 cX1_hasRow 3 (some .boolean) 2 := ⟨⟨by decide +kernel, by decide +kernel, by decide +kernel, by decide +kernel⟩, wi_X1_hasRow, wx_X1_hasRow, wz_X1, wc_X1_hasRow⟩
theorem z_X3_load : zokV yX3_load RX3 cX3_load 5 (some .int) 1 := ⟨⟨by decide +kernel, by decide +kernel, by decide +kernel, by decide +kernel⟩, wi_X3_load, wx_X3_load, wz_X3, wc_X3_load⟩
theorem z_X3_judge : zokV yX3_judge RX3 cX3_judge 4 (some .int) 1 := ⟨⟨by decide +kernel, by decide +kernel, by decide +kernel, by decide +kernel⟩, wi_X3_judge, wx_X3_judge, wz_X3, wc_X3_judge⟩
theorem z_X3_image : zokV yX3_image RX3 cX3_image 1 (some .int) 0 := ⟨⟨by decide +kernel, by decide +kernel, by decide +kernel, by decide +kernel⟩, wi_X3_image, wx_X3_image, wz_X3, wc_X3_image⟩
theorem z_X3_back : zokV yX3_back RX3 cX3_back 1 (some .int) 0 := ⟨⟨by decide +kernel, by decide +kernel, by decide +kernel, by decide +kernel⟩, wi_X3_back, wx_X3_back, wz_X3, wc_X3_back⟩
theorem z_X3_tear : zokV yX3_tear RX3 cX3_tear 2 (some .int) 0 := ⟨⟨by decide +kernel, by decide +kernel, by decide +kernel, by decide +kernel⟩, wi_X3_tear, wx_X3_tear, wz_X3, wc_X3_tear⟩
theorem z_X3_count : zokV yX3_count RX3 cX3_count 2 (some .int) 1 := ⟨⟨by decide +kernel, by decide +kernel, by decide +kernel, by decide +kernel⟩, wi_X3_count, wx_X3_count, wz_X3, wc_X3_count⟩
theorem z_X3_status : zokV yX3_status RX3 cX3_status 4 (some .int) 1 := ⟨⟨by decide +kernel, by decide +kernel, by decide +kernel, by decide +kernel⟩, wi_X3_status, wx_X3_status, wz_X3, wc_X3_status⟩
theorem z_X4_seats : zokV yX4_seats RX4 cX4_seats 3 (some .int) 2 := ⟨⟨by decide +kernel, by decide +kernel, by decide +kernel, by decide +kernel⟩, wi_X4_seats, wx_X4_seats, wz_X4, wc_X4_seats⟩
theorem z_X4_isRank : zokS yX4_isRank cX4_isRank 1 (some .boolean) 1 := ⟨⟨by decide +kernel, by decide +kernel, by decide +kernel⟩, wt_X4_isRank, wz_X4, wc_X4_isRank⟩
theorem z_X4_in : zokS yX4_in cX4_in 6 (some .boolean) 3 := ⟨⟨by decide +kernel, by decide +kernel, by decide +kernel⟩, wt_X4_in, wz_X4, wc_X4_in⟩
theorem z_X4_finds : zokV yX4_finds RX4 cX4_finds 2 (some .int) 1 := ⟨⟨by decide +kernel, by decide +kernel, by decide +kernel, by decide +kernel⟩, wi_X4_finds, wx_X4_finds, wz_X4, wc_X4_finds⟩
theorem z_X4_inRank : zokV yX4_inRank RX4 cX4_inRank 4 (some .int) 1 := ⟨⟨by decide +kernel, by decide +kernel, by decide +kernel, by decide +kernel⟩, wi_X4_inRank, wx_X4_inRank, wz_X4, wc_X4_inRank⟩
theorem z_X4_is : zokV yX4_is RX4 cX4_is 3 (some .int) 2 := ⟨⟨by decide +kernel, by decide +kernel, by decide +kernel, by decide +kernel⟩, wi_X4_is, wx_X4_is, wz_X4, wc_X4_is⟩
theorem z_X4_many : zokS yX4_many cX4_many 3 (some .int) 1 := ⟨⟨by decide +kernel, by decide +kernel, by decide +kernel⟩, wt_X4_many, wz_X4, wc_X4_many⟩
theorem z_X4_becomes : zokV yX4_becomes RX4 cX4_becomes 4 (some .int) 2 := ⟨⟨by decide +kernel, by decide +kernel, by decide +kernel, by decide +kernel⟩, wi_X4_becomes, wx_X4_becomes, wz_X4, wc_X4_becomes⟩
theorem z_X4_rankOf : zokV yX4_rankOf RX4 cX4_rankOf 4 (some .int) 2 := ⟨⟨by decide +kernel, by decide +kernel, by decide +kernel, by decide +kernel⟩, wi_X4_rankOf, wx_X4_rankOf, wz_X4, wc_X4_rankOf⟩
theorem z_X4_counting : zokV yX4_counting RX4 cX4_counting 4 (some .int) 1 := ⟨⟨by decide +kernel, by decide +kernel, by decide +kernel, by decide +kernel⟩, wi_X4_counting, wx_X4_counting, wz_X4, wc_X4_counting⟩
theorem z_X4_goldOf : zokV yX4_goldOf RX4 cX4_goldOf 4 (some .int) 1 := ⟨⟨by decide +kernel, by decide +kernel, by decide +kernel, by decide +kernel⟩, wi_X4_goldOf, wx_X4_goldOf, wz_X4, wc_X4_goldOf⟩
theorem z_X4_has : zokS yX4_has cX4_has 2 (some .boolean) 2 := ⟨⟨by decide +kernel, by decide +kernel, by decide +kernel⟩, wt_X4_has, wz_X4, wc_X4_has⟩
theorem z_X4_law : zokV yX4_law RX4 cX4_law 4 (some .int) 2 := ⟨⟨by decide +kernel, by decide +kernel, by decide +kernel, by decide +kernel⟩, wi_X4_law, wx_X4_law, wz_X4, wc_X4_law⟩
theorem z_X4_person : zokV yX4_person RX4 cX4_person 3 (some .int) 2 := ⟨⟨by decide +kernel, by decide +kernel, by decide +kernel, by decide +kernel⟩, wi_X4_person, wx_X4_person, wz_X4, wc_X4_person⟩
theorem z_X4_isKind : zokS yX4_isKind cX4_isKind 1 (some .boolean) 1 := ⟨⟨by decide +kernel, by decide +kernel, by decide +kernel⟩, wt_X4_isKind, wz_X4, wc_X4_isKind⟩
theorem z_X4_hasSeat : zokV yX4_hasSeat RX4 cX4_hasSeat 2 (some .boolean) 1 := ⟨⟨by decide +kernel, by decide +kernel, by decide +kernel, by decide +kernel⟩, wi_X4_hasSeat, wx_X4_hasSeat, wz_X4, wc_X4_hasSeat⟩
theorem z_X4_comes : zokV yX4_comes RX4 cX4_comes 4 (some .int) 2 := ⟨⟨by decide +kernel, by decide +kernel, by decide +kernel, by decide +kernel⟩, wi_X4_comes, wx_X4_comes, wz_X4, wc_X4_comes⟩
theorem z_X4_makes : zokV yX4_makes RX4 cX4_makes 4 none 3 := ⟨⟨by decide +kernel, by decide +kernel, by decide +kernel, by decide +kernel⟩, wi_X4_makes, wx_X4_makes, wz_X4, wc_X4_makes⟩
theorem z_X4_of : zokV yX4_of RX4 cX4_of 3 (some .int) 2 := ⟨⟨by decide +kernel, by decide +kernel, by decide +kernel, by decide +kernel⟩, wi_X4_of, wx_X4_of, wz_X4, wc_X4_of⟩
theorem z_X4_isPerson : zokV yX4_isPerson RX4 cX4_isPerson 2 (some .boolean) 1 := ⟨⟨by decide +kernel, by decide +kernel, by decide +kernel, by decide +kernel⟩, wi_X4_isPerson, wx_X4_isPerson, wz_X4, wc_X4_isPerson⟩
theorem z_X4_change : zokV yX4_change RX4 cX4_change 4 (some .int) 3 := ⟨⟨by decide +kernel, by decide +kernel, by decide +kernel, by decide +kernel⟩, wi_X4_change, wx_X4_change, wz_X4, wc_X4_change⟩
theorem z_X4_isPart : zokS yX4_isPart cX4_isPart 2 (some .boolean) 2 := ⟨⟨by decide +kernel, by decide +kernel, by decide +kernel⟩, wt_X4_isPart, wz_X4, wc_X4_isPart⟩
theorem z_X4_grudge : zokV yX4_grudge RX4 cX4_grudge 3 (some .int) 2 := ⟨⟨by decide +kernel, by decide +kernel, by decide +kernel, by decide +kernel⟩, wi_X4_grudge, wx_X4_grudge, wz_X4, wc_X4_grudge⟩
theorem z_X4_mayBear : zokV yX4_mayBear RX4 cX4_mayBear 3 (some .boolean) 2 := ⟨⟨by decide +kernel, by decide +kernel, by decide +kernel, by decide +kernel⟩, wi_X4_mayBear, wx_X4_mayBear, wz_X4, wc_X4_mayBear⟩
theorem z_X4_bears : zokV yX4_bears RX4 cX4_bears 3 (some .int) 2 := ⟨⟨by decide +kernel, by decide +kernel, by decide +kernel, by decide +kernel⟩, wi_X4_bears, wx_X4_bears, wz_X4, wc_X4_bears⟩
theorem z_X4_put : zokV yX4_put RX4 cX4_put 3 (some .int) 2 := ⟨⟨by decide +kernel, by decide +kernel, by decide +kernel, by decide +kernel⟩, wi_X4_put, wx_X4_put, wz_X4, wc_X4_put⟩
theorem z_X4_isOut : zokV yX4_isOut RX4 cX4_isOut 2 (some .boolean) 1 := ⟨⟨by decide +kernel, by decide +kernel, by decide +kernel, by decide +kernel⟩, wi_X4_isOut, wx_X4_isOut, wz_X4, wc_X4_isOut⟩
theorem z_X4_gift : zokV yX4_gift RX4 cX4_gift 3 (some .int) 2 := ⟨⟨by decide +kernel, by decide +kernel, by decide +kernel, by decide +kernel⟩, wi_X4_gift, wx_X4_gift, wz_X4, wc_X4_gift⟩
theorem z_X4_canGive : zokV yX4_canGive RX4 cX4_canGive 3 (some .boolean) 2 := ⟨⟨by decide +kernel, by decide +kernel, by decide +kernel, by decide +kernel⟩, wi_X4_canGive, wx_X4_canGive, wz_X4, wc_X4_canGive⟩
theorem z_X4_gives : zokV yX4_gives RX4 cX4_gives 4 none 2 := ⟨⟨by decide +kernel, by decide +kernel, by decide +kernel, by decide +kernel⟩, wi_X4_gives, wx_X4_gives, wz_X4, wc_X4_gives⟩
theorem z_X4_exchange : zokV yX4_exchange RX4 cX4_exchange 3 (some .int) 2 := ⟨⟨by decide +kernel, by decide +kernel, by decide +kernel, by decide +kernel⟩, wi_X4_exchange, wx_X4_exchange, wz_X4, wc_X4_exchange⟩
theorem z_X4_wants : zokV yX4_wants RX4 cX4_wants 3 (some .int) 2 := ⟨⟨by decide +kernel, by decide +kernel, by decide +kernel, by decide +kernel⟩, wi_X4_wants, wx_X4_wants, wz_X4, wc_X4_wants⟩
theorem z_X4_wantsIt : zokV yX4_wantsIt RX4 cX4_wantsIt 5 (some .boolean) 2 := ⟨⟨by decide +kernel, by decide +kernel, by decide +kernel, by decide +kernel⟩, wi_X4_wantsIt, wx_X4_wantsIt, wz_X4, wc_X4_wantsIt⟩
theorem z_X4_greatest : zokV yX4_greatest RX4 cX4_greatest 5 (some .int) 2 := ⟨⟨by decide +kernel, by decide +kernel, by decide +kernel, by decide +kernel⟩, wi_X4_greatest, wx_X4_greatest, wz_X4, wc_X4_greatest⟩
theorem z_X4_against : zokV yX4_against RX4 cX4_against 2 (some .int) 1 := ⟨⟨by decide +kernel, by decide +kernel, by decide +kernel, by decide +kernel⟩, wi_X4_against, wx_X4_against, wz_X4, wc_X4_against⟩
theorem z_X4_againstIt : zokV yX4_againstIt RX4 cX4_againstIt 5 (some .int) 1 := ⟨⟨by decide +kernel, by decide +kernel, by decide +kernel, by decide +kernel⟩, wi_X4_againstIt, wx_X4_againstIt, wz_X4, wc_X4_againstIt⟩
theorem z_X4_below : zokV yX4_below RX4 cX4_below 2 (some .int) 1 := ⟨⟨by decide +kernel, by decide +kernel, by decide +kernel, by decide +kernel⟩, wi_X4_below, wx_X4_below, wz_X4, wc_X4_below⟩
theorem z_X4_lacks : zokV yX4_lacks RX4 cX4_lacks 5 (some .int) 1 := ⟨⟨by decide +kernel, by decide +kernel, by decide +kernel, by decide +kernel⟩, wi_X4_lacks, wx_X4_lacks, wz_X4, wc_X4_lacks⟩
theorem z_X4_isEnough : zokV yX4_isEnough RX4 cX4_isEnough 3 (some .boolean) 2 := ⟨⟨by decide +kernel, by decide +kernel, by decide +kernel, by decide +kernel⟩, wi_X4_isEnough, wx_X4_isEnough, wz_X4, wc_X4_isEnough⟩
theorem z_X4_tremble : zokV yX4_tremble RX4 cX4_tremble 1 (some .int) 0 := ⟨⟨by decide +kernel, by decide +kernel, by decide +kernel, by decide +kernel⟩, wi_X4_tremble, wx_X4_tremble, wz_X4, wc_X4_tremble⟩
theorem z_X4_trembling : zokV yX4_trembling RX4 cX4_trembling 3 (some .int) 0 := ⟨⟨by decide +kernel, by decide +kernel, by decide +kernel, by decide +kernel⟩, wi_X4_trembling, wx_X4_trembling, wz_X4, wc_X4_trembling⟩
theorem z_X4_heir : zokV yX4_heir RX4 cX4_heir 2 (some .int) 1 := ⟨⟨by decide +kernel, by decide +kernel, by decide +kernel, by decide +kernel⟩, wi_X4_heir, wx_X4_heir, wz_X4, wc_X4_heir⟩
theorem z_X4_heirOf : zokV yX4_heirOf RX4 cX4_heirOf 4 (some .int) 1 := ⟨⟨by decide +kernel, by decide +kernel, by decide +kernel, by decide +kernel⟩, wi_X4_heirOf, wx_X4_heirOf, wz_X4, wc_X4_heirOf⟩
theorem z_X4_orNone : zokV yX4_orNone RX4 cX4_orNone 2 (some .int) 1 := ⟨⟨by decide +kernel, by decide +kernel, by decide +kernel, by decide +kernel⟩, wi_X4_orNone, wx_X4_orNone, wz_X4, wc_X4_orNone⟩
theorem z_X4_months : zokV yX4_months RX4 cX4_months 4 (some .int) 1 := ⟨⟨by decide +kernel, by decide +kernel, by decide +kernel, by decide +kernel⟩, wi_X4_months, wx_X4_months, wz_X4, wc_X4_months⟩
theorem z_X4_wrong : zokV yX4_wrong RX4 cX4_wrong 5 (some .int) 4 := ⟨⟨by decide +kernel, by decide +kernel, by decide +kernel, by decide +kernel⟩, wi_X4_wrong, wx_X4_wrong, wz_X4, wc_X4_wrong⟩
theorem z_X4_monthsGo : zokV yX4_monthsGo RX4 cX4_monthsGo 3 none 1 := ⟨⟨by decide +kernel, by decide +kernel, by decide +kernel, by decide +kernel⟩, wi_X4_monthsGo, wx_X4_monthsGo, wz_X4, wc_X4_monthsGo⟩
theorem z_X4_month : zokV yX4_month RX4 cX4_month 5 none 0 := ⟨⟨by decide +kernel, by decide +kernel, by decide +kernel, by decide +kernel⟩, wi_X4_month, wx_X4_month, wz_X4, wc_X4_month⟩
theorem z_X4_ahead : zokV yX4_ahead RX4 cX4_ahead 4 (some .int) 2 := ⟨⟨by decide +kernel, by decide +kernel, by decide +kernel, by decide +kernel⟩, wi_X4_ahead, wx_X4_ahead, wz_X4, wc_X4_ahead⟩
theorem z_X4_behind : zokV yX4_behind RX4 cX4_behind 5 (some .int) 2 := ⟨⟨by decide +kernel, by decide +kernel, by decide +kernel, by decide +kernel⟩, wi_X4_behind, wx_X4_behind, wz_X4, wc_X4_behind⟩
theorem z_X4_row : zokS yX4_row cX4_row 3 none 2 := ⟨⟨by decide +kernel, by decide +kernel, by decide +kernel⟩, wt_X4_row, wz_X4, wc_X4_row⟩
theorem z_X4_everybody : zokV yX4_everybody RX4 cX4_everybody 1 (some .int) 0 := ⟨⟨by decide +kernel, by decide +kernel, by decide +kernel, by decide +kernel⟩, wi_X4_everybody, wx_X4_everybody, wz_X4, wc_X4_everybody⟩
theorem z_X4_sits : zokV yX4_sits RX4 cX4_sits 4 (some .int) 1 := ⟨⟨by decide +kernel, by decide +kernel, by decide +kernel, by decide +kernel⟩, wi_X4_sits, wx_X4_sits, wz_X4, wc_X4_sits⟩
theorem z_X4_rises : zokV yX4_rises RX4 cX4_rises 6 (some .int) 2 := ⟨⟨by decide +kernel, by decide +kernel, by decide +kernel, by decide +kernel⟩, wi_X4_rises, wx_X4_rises, wz_X4, wc_X4_rises⟩
theorem z_X4_worth : zokV yX4_worth RX4 cX4_worth 8 (some .int) 3 := ⟨⟨by decide +kernel, by decide +kernel, by decide +kernel, by decide +kernel⟩, wi_X4_worth, wx_X4_worth, wz_X4, wc_X4_worth⟩
theorem z_X4_goldBehind : zokV yX4_goldBehind RX4 cX4_goldBehind 4 (some .int) 2 := ⟨⟨by decide +kernel, by decide +kernel, by decide +kernel, by decide +kernel⟩, wi_X4_goldBehind, wx_X4_goldBehind, wz_X4, wc_X4_goldBehind⟩
theorem z_X4_least : zokV yX4_least RX4 cX4_least 6 (some .int) 2 := ⟨⟨by decide +kernel, by decide +kernel, by decide +kernel, by decide +kernel⟩, wi_X4_least, wx_X4_least, wz_X4, wc_X4_least⟩
theorem z_X4_best : zokV yX4_best RX4 cX4_best 10 (some .int) 2 := ⟨⟨by decide +kernel, by decide +kernel, by decide +kernel, by decide +kernel⟩, wi_X4_best, wx_X4_best, wz_X4, wc_X4_best⟩
theorem z_X4_partsFor : zokV yX4_partsFor RX4 cX4_partsFor 8 (some .int) 1 := ⟨⟨by decide +kernel, by decide +kernel, by decide +kernel, by decide +kernel⟩, wi_X4_partsFor, wx_X4_partsFor, wz_X4, wc_X4_partsFor⟩
theorem z_X4_kindFor : zokV yX4_kindFor RX4 cX4_kindFor 9 (some .int) 2 := ⟨⟨by decide +kernel, by decide +kernel, by decide +kernel, by decide +kernel⟩, wi_X4_kindFor, wx_X4_kindFor, wz_X4, wc_X4_kindFor⟩
theorem z_X4_plot : zokV yX4_plot RX4 cX4_plot 7 (some .int) 2 := ⟨⟨by decide +kernel, by decide +kernel, by decide +kernel, by decide +kernel⟩, wi_X4_plot, wx_X4_plot, wz_X4, wc_X4_plot⟩
theorem z_X4_mayPlot : zokV yX4_mayPlot RX4 cX4_mayPlot 3 (some .boolean) 1 := ⟨⟨by decide +kernel, by decide +kernel, by decide +kernel, by decide +kernel⟩, wi_X4_mayPlot, wx_X4_mayPlot, wz_X4, wc_X4_mayPlot⟩
theorem z_X4_undo : zokV yX4_undo RX4 cX4_undo 6 (some .int) 2 := ⟨⟨by decide +kernel, by decide +kernel, by decide +kernel, by decide +kernel⟩, wi_X4_undo, wx_X4_undo, wz_X4, wc_X4_undo⟩
theorem z_X4_safe : zokV yX4_safe RX4 cX4_safe 3 (some .int) 0 := ⟨⟨by decide +kernel, by decide +kernel, by decide +kernel, by decide +kernel⟩, wi_X4_safe, wx_X4_safe, wz_X4, wc_X4_safe⟩
theorem z_X4_isSafe : zokV yX4_isSafe RX4 cX4_isSafe 5 (some .boolean) 1 := ⟨⟨by decide +kernel, by decide +kernel, by decide +kernel, by decide +kernel⟩, wi_X4_isSafe, wx_X4_isSafe, wz_X4, wc_X4_isSafe⟩
theorem z_X4_rumours : zokV yX4_rumours RX4 cX4_rumours 5 (some .int) 1 := ⟨⟨by decide +kernel, by decide +kernel, by decide +kernel, by decide +kernel⟩, wi_X4_rumours, wx_X4_rumours, wz_X4, wc_X4_rumours⟩
theorem z_X4_draw : zokV yX4_draw RX4 cX4_draw 1 (some .int) 0 := ⟨⟨by decide +kernel, by decide +kernel, by decide +kernel, by decide +kernel⟩, wi_X4_draw, wx_X4_draw, wz_X4, wc_X4_draw⟩
theorem z_X4_grudging : zokV yX4_grudging RX4 cX4_grudging 3 (some .int) 0 := ⟨⟨by decide +kernel, by decide +kernel, by decide +kernel, by decide +kernel⟩, wi_X4_grudging, wx_X4_grudging, wz_X4, wc_X4_grudging⟩
theorem z_X4_seed : zokV yX4_seed RX4 cX4_seed 2 (some .int) 1 := ⟨⟨by decide +kernel, by decide +kernel, by decide +kernel, by decide +kernel⟩, wi_X4_seed, wx_X4_seed, wz_X4, wc_X4_seed⟩
theorem z_X4_feed : zokV yX4_feed RX4 cX4_feed 4 (some .int) 2 := ⟨⟨by decide +kernel, by decide +kernel, by decide +kernel, by decide +kernel⟩, wi_X4_feed, wx_X4_feed, wz_X4, wc_X4_feed⟩
theorem z_X4_wipe : zokV yX4_wipe RX4 cX4_wipe 2 (some .int) 0 := ⟨⟨by decide +kernel, by decide +kernel, by decide +kernel, by decide +kernel⟩, wi_X4_wipe, wx_X4_wipe, wz_X4, wc_X4_wipe⟩
theorem z_X4_text : zokV yX4_text RX4 cX4_text 4 (some .int) 0 := ⟨⟨by decide +kernel, by decide +kernel, by decide +kernel, by decide +kernel⟩, wi_X4_text, wx_X4_text, wz_X4, wc_X4_text⟩
theorem z_X4_token : zokV yX4_token RX4 cX4_token 1 none 0 := ⟨⟨by decide +kernel, by decide +kernel, by decide +kernel, by decide +kernel⟩, wi_X4_token, wx_X4_token, wz_X4, wc_X4_token⟩
theorem z_X4_isByte : zokV yX4_isByte RX4 cX4_isByte 4 (some .boolean) 3 := ⟨⟨by decide +kernel, by decide +kernel, by decide +kernel, by decide +kernel⟩, wi_X4_isByte, wx_X4_isByte, wz_X4, wc_X4_isByte⟩
theorem z_X4_item : zokV yX4_item RX4 cX4_item 1 none 0 := ⟨⟨by decide +kernel, by decide +kernel, by decide +kernel, by decide +kernel⟩, wi_X4_item, wx_X4_item, wz_X4, wc_X4_item⟩
theorem z_X4_takes : zokV yX4_takes RX4 cX4_takes 2 (some .boolean) 1 := ⟨⟨by decide +kernel, by decide +kernel, by decide +kernel, by decide +kernel⟩, wi_X4_takes, wx_X4_takes, wz_X4, wc_X4_takes⟩
theorem z_X4_isWord : zokV yX4_isWord RX4 cX4_isWord 4 (some .boolean) 1 := ⟨⟨by decide +kernel, by decide +kernel, by decide +kernel, by decide +kernel⟩, wi_X4_isWord, wx_X4_isWord, wz_X4, wc_X4_isWord⟩
theorem z_X4_rankItem : zokV yX4_rankItem RX4 cX4_rankItem 4 none 0 := ⟨⟨by decide +kernel, by decide +kernel, by decide +kernel, by decide +kernel⟩, wi_X4_rankItem, wx_X4_rankItem, wz_X4, wc_X4_rankItem⟩
theorem z_X4_number : zokV yX4_number RX4 cX4_number 5 (some .int) 3 := ⟨⟨by decide +kernel, by decide +kernel, by decide +kernel, by decide +kernel⟩, wi_X4_number, wx_X4_number, wz_X4, wc_X4_number⟩
theorem z_X4_word : zokV yX4_word RX4 cX4_word 2 none 1 := ⟨⟨by decide +kernel, by decide +kernel, by decide +kernel, by decide +kernel⟩, wi_X4_word, wx_X4_word, wz_X4, wc_X4_word⟩
theorem z_X4_tells : zokV yX4_tells RX4 cX4_tells 3 none 2 := ⟨⟨by decide +kernel, by decide +kernel, by decide +kernel, by decide +kernel⟩, wi_X4_tells, wx_X4_tells, wz_X4, wc_X4_tells⟩
theorem z_X4_kindHere : zokV yX4_kindHere RX4 cX4_kindHere 1 (some .int) 0 := ⟨⟨by decide +kernel, by decide +kernel, by decide +kernel, by decide +kernel⟩, wi_X4_kindHere, wx_X4_kindHere, wz_X4, wc_X4_kindHere⟩
theorem z_X4_personItem : zokV yX4_personItem RX4 cX4_personItem 8 none 1 := ⟨⟨by decide +kernel, by decide +kernel, by decide +kernel, by decide +kernel⟩, wi_X4_personItem, wx_X4_personItem, wz_X4, wc_X4_personItem⟩
theorem z_X4_isSign : zokV yX4_isSign RX4 cX4_isSign 2 (some .boolean) 1 := ⟨⟨by decide +kernel, by decide +kernel, by decide +kernel, by decide +kernel⟩, wi_X4_isSign, wx_X4_isSign, wz_X4, wc_X4_isSign⟩
theorem z_X4_hold : zokV yX4_hold RX4 cX4_hold 3 (some .int) 2 := ⟨⟨by decide +kernel, by decide +kernel, by decide +kernel, by decide +kernel⟩, wi_X4_hold, wx_X4_hold, wz_X4, wc_X4_hold⟩
theorem z_X4_as : zokV yX4_as RX4 cX4_as 5 (some .int) 2 := ⟨⟨by decide +kernel, by decide +kernel, by decide +kernel, by decide +kernel⟩, wi_X4_as, wx_X4_as, wz_X4, wc_X4_as⟩
theorem z_X4_above : zokS yX4_above cX4_above 1 (some .int) 1 := ⟨⟨by decide +kernel, by decide +kernel, by decide +kernel⟩, wt_X4_above, wz_X4, wc_X4_above⟩
theorem z_X4_sheet : zokV yX4_sheet RX4 cX4_sheet 5 (some .int) 3 := ⟨⟨by decide +kernel, by decide +kernel, by decide +kernel, by decide +kernel⟩, wi_X4_sheet, wx_X4_sheet, wz_X4, wc_X4_sheet⟩
theorem z_X4_isSheet : zokS yX4_isSheet cX4_isSheet 1 (some .boolean) 1 := ⟨⟨by decide +kernel, by decide +kernel, by decide +kernel⟩, wt_X4_isSheet, wz_X4, wc_X4_isSheet⟩
theorem z_X4_write : zokV yX4_write RX4 cX4_write 4 (some .int) 3 := ⟨⟨by decide +kernel, by decide +kernel, by decide +kernel, by decide +kernel⟩, wi_X4_write, wx_X4_write, wz_X4, wc_X4_write⟩
theorem z_X4_copy : zokV yX4_copy RX4 cX4_copy 9 (some .int) 5 := ⟨⟨by decide +kernel, by decide +kernel, by decide +kernel, by decide +kernel⟩, wi_X4_copy, wx_X4_copy, wz_X4, wc_X4_copy⟩
theorem z_X4_load : zokV yX4_load RX4 cX4_load 3 (some .int) 1 := ⟨⟨by decide +kernel, by decide +kernel, by decide +kernel, by decide +kernel⟩, wi_X4_load, wx_X4_load, wz_X4, wc_X4_load⟩
theorem z_X4_judge : zokV yX4_judge RX4 cX4_judge 4 (some .int) 1 := ⟨⟨by decide +kernel, by decide +kernel, by decide +kernel, by decide +kernel⟩, wi_X4_judge, wx_X4_judge, wz_X4, wc_X4_judge⟩
theorem z_X4_image : zokV yX4_image RX4 cX4_image 1 (some .int) 0 := ⟨⟨by decide +kernel, by decide +kernel, by decide +kernel, by decide +kernel⟩, wi_X4_image, wx_X4_image, wz_X4, wc_X4_image⟩
theorem z_X4_back : zokV yX4_back RX4 cX4_back 1 (some .int) 0 := ⟨⟨by decide +kernel, by decide +kernel, by decide +kernel, by decide +kernel⟩, wi_X4_back, wx_X4_back, wz_X4, wc_X4_back⟩
theorem z_X4_tear : zokV yX4_tear RX4 cX4_tear 2 (some .int) 0 := ⟨⟨by decide +kernel, by decide +kernel, by decide +kernel, by decide +kernel⟩, wi_X4_tear, wx_X4_tear, wz_X4, wc_X4_tear⟩
theorem z_X4_count : zokV yX4_count RX4 cX4_count 2 (some .int) 1 := ⟨⟨by decide +kernel, by decide +kernel, by decide +kernel, by decide +kernel⟩, wi_X4_count, wx_X4_count, wz_X4, wc_X4_count⟩
theorem z_X4_status : zokV yX4_status RX4 cX4_status 4 (some .int) 1 := ⟨⟨by decide +kernel, by decide +kernel, by decide +kernel, by decide +kernel⟩, wi_X4_status, wx_X4_status, wz_X4, wc_X4_status⟩
