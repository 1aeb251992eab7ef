abbrev q_X1_apply (b : Bd) (κ : Hp) (x1 : Int) (x2 : Int) (s3 : Nat) (s4 : Nat) : Int → Hp → Prop := fun r h' => Fr b κ h' ∧ (True)
set_option maxHeartbeats 4000000 in
set_option maxRecDepth 20000 in
theorem s_X1_apply {G : Ga} {b : Bd} {κ h : Hp} (hK : KC κ) (hF : Fr b κ h) (x1 : Int) (hx1 : 1 ≤ x1 ∧ x1 ≤ 12) (x2 : Int) (hx2 : rng x2) (s3 : Nat) (hs3 : 56 ≤ s3 ∧ s3 ≤ 70) (s4 : Nat) (hs4 : 56 ≤ s4 ∧ s4 ≤ 70) (hto : OkL b (s4 + 15)) (hfu : OkL b s4) : zM G mX1_apply yX1_apply [.inr (.inr 54), .inl x1, .inl x2, .inr (.inr s3), .inr (.inr s4)] h (q_X1_apply b κ x1 x2 s3 s4) := by
  unfold rng at hx2
  have k49 : ∀ (v5 v6 u1 : Int) (h : Hp), Fr b κ h → (rng v5) → (rng v6) → (0 ≤ u1 ∧ u1 ≤ 1) → zV G mX1_apply (q_X1_apply b κ x1 x2 s3 s4) 49 [some (.inr (.inr 54)), some (.inl x1), some (.inl x2), some (.inr (.inr s3)), some (.inr (.inr s4)), some (.inl v5), some (.inl v6)] [.inl u1, .inr (.inr s4)] h := by
    intro v5 v6 u1 h hF g0 g1 g2
    unfold rng at g0
    unfold rng at g1
    refine zP_ful (pc' := 52) hF (by omega) (by omega) (by omega) hfu fp_X1_81 dX1_apply_1.2.1.1.2 rfl (fun h hF w49 => ?_)
    refine zW_aload_n (pc' := 53) dX1_apply_1.2.1.2.1 rfl rfl ?_
    refine zG_ref (pc' := 56) 41 fg_X1_33 tb54 rfl dX1_apply_1.2.1.2.2 rfl ?_
    refine zW_iload_n (pc' := 57) dX1_apply_1.2.2.1.1 rfl rfl ?_
    refine cvI1 (pc' := 60) kX7_letterOf vX7_letterOf lk_X1_85 ⟨Nat.le_of_ble_eq_true rfl, Nat.le_of_ble_eq_true rfl⟩ tb41 vq7 rfl rfl (s_X7_letterOf hK hF _ ⟨by omega, by omega⟩) dX1_apply_1.2.2.1.2 (Nat.le_of_ble_eq_true rfl) rfl ?_
    rintro r57 z57 ⟨hz57, p57⟩; subst z57
    refine zW_tsw2 (fun z t => (z = 98 ∧ t = 172) ∨ (z = 100 ∧ t = 186) ∨ (z = 102 ∧ t = 228) ∨ (z = 103 ∧ t = 298) ∨ (z = 104 ∧ t = 332) ∨ (z = 108 ∧ t = 214) ∨ (z = 109 ∧ t = 318) ∨ (z = 110 ∧ t = 398) ∨ (z = 111 ∧ t = 200) ∨ (z = 112 ∧ t = 364) ∨ (z = 115 ∧ t = 414) ∨ (z = 116 ∧ t = 346) ∨ (z = 118 ∧ t = 242) ∨ (z = 119 ∧ t = 256) ∨ (z = 121 ∧ t = 380) ∨ (t = 430)) (fun z => if z = 98 then 172 else if z = 100 then 186 else if z = 102 then 228 else if z = 103 then 298 else if z = 104 then 332 else if z = 108 then 214 else if z = 109 then 318 else if z = 110 then 398 else if z = 111 then 200 else if z = 112 then 364 else if z = 115 then 414 else if z = 116 then 346 else if z = 118 then 242 else if z = 119 then 256 else if z = 121 then 380 else 430) dX1_apply_1.2.2.2.1 ⟨by omega, by omega⟩ (tsw_ok (pc := 60) (lo := 98) (offs := #[112, 370, 126, 370, 168, 238, 272, 370, 370, 370, 154, 258, 338, 140, 304, 370, 370, 354, 286, 370, 182, 196, 370, 320]) (tg := fun z => if z = 98 then 172 else if z = 100 then 186 else if z = 102 then 228 else if z = 103 then 298 else if z = 104 then 332 else if z = 108 then 214 else if z = 109 then 318 else if z = 110 then 398 else if z = 111 then 200 else if z = 112 then 364 else if z = 115 then 414 else if z = 116 then 346 else if z = 118 then 242 else if z = 119 then 256 else if z = 121 then 380 else 430) (by decide +kernel)) rfl (by decide +kernel) (td := 430) rfl (fun c60 => ?_) (fun t60 w60 => ?_)
    · exact zV_vret rfl dX1_apply_9.2.2.2 ⟨hF, trivial⟩
    · rcases w60 with ⟨s98, rfl⟩ | ⟨s100, rfl⟩ | ⟨s102, rfl⟩ | ⟨s103, rfl⟩ | ⟨s104, rfl⟩ | ⟨s108, rfl⟩ | ⟨s109, rfl⟩ | ⟨s110, rfl⟩ | ⟨s111, rfl⟩ | ⟨s112, rfl⟩ | ⟨s115, rfl⟩ | ⟨s116, rfl⟩ | ⟨s118, rfl⟩ | ⟨s119, rfl⟩ | ⟨s121, rfl⟩ | rfl
      · refine zW_aload_n (pc' := 173) dX1_apply_1.2.2.2.2 rfl rfl ?_
        refine zG_ref (pc' := 176) 86 fg_X1_42 tb54 rfl dX1_apply_2.1.1.1.1 rfl ?_
        refine zW_aload_n (pc' := 177) dX1_apply_2.1.1.1.2 rfl rfl ?_
        refine zW_aload (pc' := 179) dX1_apply_2.1.1.2.1 rfl rfl ?_
        refine zW_iload_n (pc' := 180) dX1_apply_2.1.1.2.2 rfl rfl ?_
        refine cvV3 (pc' := 183) kX2_takeBlack vX2_takeBlack lk_X1_89 ⟨Nat.le_of_ble_eq_true rfl, Nat.le_of_ble_eq_true rfl⟩ tb86 vq2 rfl rfl (s_X2_takeBlack hK hF _ ⟨by omega, by omega⟩ _ ⟨by omega, by omega⟩ _ hto) dX1_apply_2.1.2.1.1 (Nat.le_of_ble_eq_true rfl) rfl ?_
        rintro r180 h ⟨hF, p180⟩
        refine zV_goto 430 dX1_apply_2.1.2.1.2 rfl ?_
        exact zV_vret rfl dX1_apply_9.2.2.2 ⟨hF, trivial⟩
      · refine zW_aload_n (pc' := 187) dX1_apply_2.1.2.2.1 rfl rfl ?_
        refine zG_ref (pc' := 190) 86 fg_X1_42 tb54 rfl dX1_apply_2.1.2.2.2 rfl ?_
        refine zW_aload_n (pc' := 191) dX1_apply_2.2.1.1.1 rfl rfl ?_
        refine zW_aload (pc' := 193) dX1_apply_2.2.1.1.2 rfl rfl ?_
        refine zW_iload_n (pc' := 194) dX1_apply_2.2.1.2.1 rfl rfl ?_
        refine cvV3 (pc' := 197) kX2_fillFound vX2_fillFound lk_X1_93 ⟨Nat.le_of_ble_eq_true rfl, Nat.le_of_ble_eq_true rfl⟩ tb86 vq2 rfl rfl (s_X2_fillFound hK hF _ ⟨by omega, by omega⟩ _ ⟨by omega, by omega⟩ _ hto) dX1_apply_2.2.1.2.2 (Nat.le_of_ble_eq_true rfl) rfl ?_
        rintro r194 h ⟨hF, p194⟩
        refine zV_goto 430 dX1_apply_2.2.2.1.1 rfl ?_
        exact zV_vret rfl dX1_apply_9.2.2.2 ⟨hF, trivial⟩
      · refine zW_aload_n (pc' := 229) dX1_apply_3.2.1.2.2 rfl rfl ?_
        refine zG_ref (pc' := 232) 86 fg_X1_42 tb54 rfl dX1_apply_3.2.2.1.1 rfl ?_
        refine zW_aload_n (pc' := 233) dX1_apply_3.2.2.1.2 rfl rfl ?_
        refine zW_aload (pc' := 235) dX1_apply_3.2.2.2.1 rfl rfl ?_
        refine zW_iload_n (pc' := 236) dX1_apply_3.2.2.2.2 rfl rfl ?_
        refine cvV3 (pc' := 239) kX2_fillMosaic vX2_fillMosaic lk_X1_102 ⟨Nat.le_of_ble_eq_true rfl, Nat.le_of_ble_eq_true rfl⟩ tb86 vq2 rfl rfl (s_X2_fillMosaic hK hF _ ⟨by omega, by omega⟩ _ ⟨by omega, by omega⟩ _ hto) dX1_apply_4.1.1.1.1 (Nat.le_of_ble_eq_true rfl) rfl ?_
        rintro r236 h ⟨hF, p236⟩
        refine zV_goto 430 dX1_apply_4.1.1.1.2 rfl ?_
        exact zV_vret rfl dX1_apply_9.2.2.2 ⟨hF, trivial⟩
      · refine zW_aload_n (pc' := 299) dX1_apply_5.2.2.1.1 rfl rfl ?_
        refine zG_ref (pc' := 302) 87 fg_X1_49 tb54 rfl dX1_apply_5.2.2.1.2 rfl ?_
        refine zW_aload_n (pc' := 303) dX1_apply_5.2.2.2.1 rfl rfl ?_
        refine zW_aload (pc' := 305) dX1_apply_5.2.2.2.2 rfl rfl ?_
        refine zW_iload_n (pc' := 306) dX1_apply_6.1.1.1.1 rfl rfl ?_
        refine zW_iload (pc' := 308) dX1_apply_6.1.1.1.2 rfl rfl ?_
        refine zW_iload (pc' := 310) dX1_apply_6.1.1.2.1 rfl rfl ?_
        refine zW_bipush (pc' := 312) dX1_apply_6.1.1.2.2 rfl rfl ?_
        refine cvV6 (pc' := 315) kX3_multiply vX3_multiply lk_X1_118 ⟨Nat.le_of_ble_eq_true rfl, Nat.le_of_ble_eq_true rfl⟩ tb87 vq3 rfl rfl (s_X3_multiply hK hF _ ⟨by omega, by omega⟩ _ ⟨by omega, by omega⟩ _ _ _ _ ⟨by omega, by omega⟩ hto) dX1_apply_6.1.2.1.1 (Nat.le_of_ble_eq_true rfl) rfl ?_
        rintro r312 h ⟨hF, p312⟩
        refine zV_goto 430 dX1_apply_6.1.2.1.2 rfl ?_
        exact zV_vret rfl dX1_apply_9.2.2.2 ⟨hF, trivial⟩
      · refine zW_aload_n (pc' := 333) dX1_apply_6.2.2.1.2 rfl rfl ?_
        refine zG_ref (pc' := 336) 87 fg_X1_49 tb54 rfl dX1_apply_6.2.2.2.1 rfl ?_
        refine zW_aload_n (pc' := 337) dX1_apply_6.2.2.2.2 rfl rfl ?_
        refine zW_aload (pc' := 339) dX1_apply_7.1.1.1.1 rfl rfl ?_
        refine zW_iload_n (pc' := 340) dX1_apply_7.1.1.1.2 rfl rfl ?_
        refine cvV3 (pc' := 343) kX3_makePale vX3_makePale lk_X1_125 ⟨Nat.le_of_ble_eq_true rfl, Nat.le_of_ble_eq_true rfl⟩ tb87 vq3 rfl rfl (s_X3_makePale hK hF _ ⟨by omega, by omega⟩ _ ⟨by omega, by omega⟩ _ hto) dX1_apply_7.1.1.2.1 (Nat.le_of_ble_eq_true rfl) rfl ?_
        rintro r340 h ⟨hF, p340⟩
        refine zV_goto 430 dX1_apply_7.1.1.2.2 rfl ?_
        exact zV_vret rfl dX1_apply_9.2.2.2 ⟨hF, trivial⟩
      · refine zW_aload_n (pc' := 215) dX1_apply_3.1.2.1.1 rfl rfl ?_
        refine zG_ref (pc' := 218) 86 fg_X1_42 tb54 rfl dX1_apply_3.1.2.1.2 rfl ?_
        refine zW_aload_n (pc' := 219) dX1_apply_3.1.2.2.1 rfl rfl ?_
        refine zW_aload (pc' := 221) dX1_apply_3.1.2.2.2 rfl rfl ?_
        refine zW_iload_n (pc' := 222) dX1_apply_3.2.1.1.1 rfl rfl ?_
        refine cvV3 (pc' := 225) kX2_liftShade vX2_liftShade lk_X1_99 ⟨Nat.le_of_ble_eq_true rfl, Nat.le_of_ble_eq_true rfl⟩ tb86 vq2 rfl rfl (s_X2_liftShade hK hF _ ⟨by omega, by omega⟩ _ ⟨by omega, by omega⟩ _ hto) dX1_apply_3.2.1.1.2 (Nat.le_of_ble_eq_true rfl) rfl ?_
        rintro r222 h ⟨hF, p222⟩
        refine zV_goto 430 dX1_apply_3.2.1.2.1 rfl ?_
        exact zV_vret rfl dX1_apply_9.2.2.2 ⟨hF, trivial⟩
      · refine zW_aload_n (pc' := 319) dX1_apply_6.1.2.2.1 rfl rfl ?_
        refine zG_ref (pc' := 322) 87 fg_X1_49 tb54 rfl dX1_apply_6.1.2.2.2 rfl ?_
        refine zW_aload_n (pc' := 323) dX1_apply_6.2.1.1.1 rfl rfl ?_
        refine zW_aload (pc' := 325) dX1_apply_6.2.1.1.2 rfl rfl ?_
        refine zW_iload_n (pc' := 326) dX1_apply_6.2.1.2.1 rfl rfl ?_
        refine cvV3 (pc' := 329) kX3_stretch vX3_stretch lk_X1_122 ⟨Nat.le_of_ble_eq_true rfl, Nat.le_of_ble_eq_true rfl⟩ tb87 vq3 rfl rfl (s_X3_stretch hK hF _ ⟨by omega, by omega⟩ _ ⟨by omega, by omega⟩ _ hto) dX1_apply_6.2.1.2.2 (Nat.le_of_ble_eq_true rfl) rfl ?_
        rintro r326 h ⟨hF, p326⟩
        refine zV_goto 430 dX1_apply_6.2.2.1.1 rfl ?_
        exact zV_vret rfl dX1_apply_9.2.2.2 ⟨hF, trivial⟩
      · refine zW_aload_n (pc' := 399) dX1_apply_8.2.2.2.1 rfl rfl ?_
        refine zG_ref (pc' := 402) 87 fg_X1_49 tb54 rfl dX1_apply_8.2.2.2.2 rfl ?_
        refine zW_aload_n (pc' := 403) dX1_apply_9.1.1.1.1 rfl rfl ?_
        refine zW_aload (pc' := 405) dX1_apply_9.1.1.1.2 rfl rfl ?_
        refine zW_iload_n (pc' := 406) dX1_apply_9.1.1.2.1 rfl rfl ?_
        refine zW_iload (pc' := 408) dX1_apply_9.1.1.2.2 rfl rfl ?_
        refine cvV4 (pc' := 411) kX3_takeNoise vX3_takeNoise lk_X1_140 ⟨Nat.le_of_ble_eq_true rfl, Nat.le_of_ble_eq_true rfl⟩ tb87 vq3 rfl rfl (s_X3_takeNoise hK hF _ ⟨by omega, by omega⟩ _ ⟨by omega, by omega⟩ _ _ hto) dX1_apply_9.1.2.1.1 (Nat.le_of_ble_eq_true rfl) rfl ?_
        rintro r408 h ⟨hF, p408⟩
        refine zV_goto 430 dX1_apply_9.1.2.1.2 rfl ?_
        exact zV_vret rfl dX1_apply_9.2.2.2 ⟨hF, trivial⟩
      · refine zW_aload_n (pc' := 201) dX1_apply_2.2.2.1.2 rfl rfl ?_
        refine zG_ref (pc' := 204) 86 fg_X1_42 tb54 rfl dX1_apply_2.2.2.2.1 rfl ?_
        refine zW_aload_n (pc' := 205) dX1_apply_2.2.2.2.2 rfl rfl ?_
        refine zW_aload (pc' := 207) dX1_apply_3.1.1.1.1 rfl rfl ?_
        refine zW_iload_n (pc' := 208) dX1_apply_3.1.1.1.2 rfl rfl ?_
        refine cvV3 (pc' := 211) kX2_takeDark vX2_takeDark lk_X1_96 ⟨Nat.le_of_ble_eq_true rfl, Nat.le_of_ble_eq_true rfl⟩ tb86 vq2 rfl rfl (s_X2_takeDark hK hF _ ⟨by omega, by omega⟩ _ ⟨by omega, by omega⟩ _ ⟨by omega, by omega⟩ hto) dX1_apply_3.1.1.2.1 (Nat.le_of_ble_eq_true rfl) rfl ?_
        rintro r208 h ⟨hF, p208⟩
        refine zV_goto 430 dX1_apply_3.1.1.2.2 rfl ?_
        exact zV_vret rfl dX1_apply_9.2.2.2 ⟨hF, trivial⟩
      · refine zW_aload_n (pc' := 365) dX1_apply_7.2.2.1.2 rfl rfl ?_
        refine zG_ref (pc' := 368) 87 fg_X1_49 tb54 rfl dX1_apply_7.2.2.2.1 rfl ?_
        refine zW_aload_n (pc' := 369) dX1_apply_7.2.2.2.2 rfl rfl ?_
        refine zW_aload (pc' := 371) dX1_apply_8.1.1.1.1 rfl rfl ?_
        refine zW_iload_n (pc' := 372) dX1_apply_8.1.1.1.2 rfl rfl ?_
        refine zW_iload (pc' := 374) dX1_apply_8.1.1.2.1 rfl rfl ?_
        refine cvV4 (pc' := 377) kX3_evenBlocks vX3_evenBlocks lk_X1_132 ⟨Nat.le_of_ble_eq_true rfl, Nat.le_of_ble_eq_true rfl⟩ tb87 vq3 rfl rfl (s_X3_evenBlocks hK hF _ ⟨by omega, by omega⟩ _ ⟨by omega, by omega⟩ _ ⟨by omega, by omega⟩ _ hto) dX1_apply_8.1.1.2.2 (Nat.le_of_ble_eq_true rfl) rfl ?_
        rintro r374 h ⟨hF, p374⟩
        refine zV_goto 430 dX1_apply_8.1.2.1.1 rfl ?_
        exact zV_vret rfl dX1_apply_9.2.2.2 ⟨hF, trivial⟩
      · refine zW_aload_n (pc' := 415) dX1_apply_9.1.2.2.1 rfl rfl ?_
        refine zG_ref (pc' := 418) 87 fg_X1_49 tb54 rfl dX1_apply_9.1.2.2.2 rfl ?_
        refine zW_aload_n (pc' := 419) dX1_apply_9.2.1.1.1 rfl rfl ?_
        refine zW_aload (pc' := 421) dX1_apply_9.2.1.1.2 rfl rfl ?_
        refine zW_iload_n (pc' := 422) dX1_apply_9.2.1.2.1 rfl rfl ?_
        refine zW_iload (pc' := 424) dX1_apply_9.2.1.2.2 rfl rfl ?_
        refine cvV4 (pc' := 427) kX3_sharpen vX3_sharpen lk_X1_143 ⟨Nat.le_of_ble_eq_true rfl, Nat.le_of_ble_eq_true rfl⟩ tb87 vq3 rfl rfl (s_X3_sharpen hK hF _ ⟨by omega, by omega⟩ _ ⟨by omega, by omega⟩ _ _ hto) dX1_apply_9.2.2.1.1 (Nat.le_of_ble_eq_true rfl) rfl ?_
        rintro r424 h ⟨hF, p424⟩
        refine zV_goto 430 dX1_apply_9.2.2.1.2 rfl ?_
        exact zV_vret rfl dX1_apply_9.2.2.2 ⟨hF, trivial⟩
      · refine zW_aload_n (pc' := 347) dX1_apply_7.1.2.1.1 rfl rfl ?_
        refine zG_ref (pc' := 350) 87 fg_X1_49 tb54 rfl dX1_apply_7.1.2.1.2 rfl ?_
        refine zW_aload_n (pc' := 351) dX1_apply_7.1.2.2.1 rfl rfl ?_
        refine zW_aload (pc' := 353) dX1_apply_7.1.2.2.2 rfl rfl ?_
        refine zW_aload_n (pc' := 354) dX1_apply_7.2.1.1.1 rfl rfl ?_
        refine zG_ref (pc' := 357) 41 fg_X1_33 tb54 rfl dX1_apply_7.2.1.1.2 rfl ?_
        refine zW_iload_n (pc' := 358) dX1_apply_7.2.1.2.1 rfl rfl ?_
        refine cvV4 (pc' := 361) kX3_bend vX3_bend lk_X1_128 ⟨Nat.le_of_ble_eq_true rfl, Nat.le_of_ble_eq_true rfl⟩ tb87 vq3 rfl rfl (s_X3_bend hK hF _ ⟨by omega, by omega⟩ _ ⟨by omega, by omega⟩ _ ⟨by omega, by omega⟩ hto) dX1_apply_7.2.1.2.2 (Nat.le_of_ble_eq_true rfl) rfl ?_
        rintro r358 h ⟨hF, p358⟩
        refine zV_goto 430 dX1_apply_7.2.2.1.1 rfl ?_
        exact zV_vret rfl dX1_apply_9.2.2.2 ⟨hF, trivial⟩
      · refine zW_aload_n (pc' := 243) dX1_apply_4.1.1.2.1 rfl rfl ?_
        refine zG_ref (pc' := 246) 87 fg_X1_49 tb54 rfl dX1_apply_4.1.1.2.2 rfl ?_
        refine zW_aload_n (pc' := 247) dX1_apply_4.1.2.1.1 rfl rfl ?_
        refine zW_aload (pc' := 249) dX1_apply_4.1.2.1.2 rfl rfl ?_
        refine zW_iload_n (pc' := 250) dX1_apply_4.1.2.2.1 rfl rfl ?_
        refine cvV3 (pc' := 253) kX3_voteDown vX3_voteDown lk_X1_105 ⟨Nat.le_of_ble_eq_true rfl, Nat.le_of_ble_eq_true rfl⟩ tb87 vq3 rfl rfl (s_X3_voteDown hK hF _ ⟨by omega, by omega⟩ _ ⟨by omega, by omega⟩ _ ⟨by omega, by omega⟩ hto) dX1_apply_4.1.2.2.2 (Nat.le_of_ble_eq_true rfl) rfl ?_
        rintro r250 h ⟨hF, p250⟩
        refine zV_goto 430 dX1_apply_4.2.1.1.1 rfl ?_
        exact zV_vret rfl dX1_apply_9.2.2.2 ⟨hF, trivial⟩
      · refine zW_aload_n (pc' := 257) dX1_apply_4.2.1.1.2 rfl rfl ?_
        refine zG_ref (pc' := 260) 87 fg_X1_49 tb54 rfl dX1_apply_4.2.1.2.1 rfl ?_
        refine zW_aload_n (pc' := 261) dX1_apply_4.2.1.2.2 rfl rfl ?_
        refine zW_iload_n (pc' := 262) dX1_apply_4.2.2.1.1 rfl rfl ?_
        refine cvV2 (pc' := 265) kX3_findWhite vX3_findWhite lk_X1_108 ⟨Nat.le_of_ble_eq_true rfl, Nat.le_of_ble_eq_true rfl⟩ tb87 vq3 rfl rfl (s_X3_findWhite hK hF _ ⟨by omega, by omega⟩ _) dX1_apply_4.2.2.1.2 (Nat.le_of_ble_eq_true rfl) rfl ?_
        rintro r262 h ⟨hF, p262⟩
        refine zW_aload_n (pc' := 266) dX1_apply_4.2.2.2.1 rfl rfl ?_
        refine zG_ref (pc' := 269) 87 fg_X1_49 tb54 rfl dX1_apply_4.2.2.2.2 rfl ?_
        refine zW_aload_n (pc' := 270) dX1_apply_5.1.1.1.1 rfl rfl ?_
        refine zW_aload (pc' := 272) dX1_apply_5.1.1.1.2 rfl rfl ?_
        refine zW_aload_n (pc' := 273) dX1_apply_5.1.1.2.1 rfl rfl ?_
        refine zG_ref (pc' := 276) 87 fg_X1_49 tb54 rfl dX1_apply_5.1.1.2.2 rfl ?_
        refine zG_int (pc' := 279) fg_X1_112 tb87 rfl dX1_apply_5.1.2.1.1 rfl ?_
        refine zW_sipush (pc' := 282) dX1_apply_5.1.2.1.2 rfl rfl ?_
        refine zW_aload_n (pc' := 283) dX1_apply_5.1.2.2.1 rfl rfl ?_
        refine zG_ref (pc' := 286) 87 fg_X1_49 tb54 rfl dX1_apply_5.1.2.2.2 rfl ?_
        refine zG_int (pc' := 289) fg_X1_115 tb87 rfl dX1_apply_5.2.1.1.1 rfl ?_
        refine zW_sipush (pc' := 292) dX1_apply_5.2.1.1.2 rfl rfl ?_
        refine cvV6 (pc' := 295) kX3_multiply vX3_multiply lk_X1_118 ⟨Nat.le_of_ble_eq_true rfl, Nat.le_of_ble_eq_true rfl⟩ tb87 vq3 rfl rfl (s_X3_multiply hK hF _ ⟨by omega, by omega⟩ _ ⟨by omega, by omega⟩ _ _ _ _ ⟨by omega, by omega⟩ hto) dX1_apply_5.2.1.2.1 (Nat.le_of_ble_eq_true rfl) rfl ?_
        rintro r292 h ⟨hF, p292⟩
        refine zV_goto 430 dX1_apply_5.2.1.2.2 rfl ?_
        exact zV_vret rfl dX1_apply_9.2.2.2 ⟨hF, trivial⟩
      · refine zW_aload_n (pc' := 381) dX1_apply_8.1.2.1.2 rfl rfl ?_
        refine zG_ref (pc' := 384) 87 fg_X1_49 tb54 rfl dX1_apply_8.1.2.2.1 rfl ?_
        refine zW_aload_n (pc' := 385) dX1_apply_8.1.2.2.2 rfl rfl ?_
        refine zW_aload (pc' := 387) dX1_apply_8.2.1.1.1 rfl rfl ?_
        refine zW_iload_n (pc' := 388) dX1_apply_8.2.1.1.2 rfl rfl ?_
        refine zW_iload (pc' := 390) dX1_apply_8.2.1.2.1 rfl rfl ?_
        refine zW_iload (pc' := 392) dX1_apply_8.2.1.2.2 rfl rfl ?_
        refine cvV5 (pc' := 395) kX3_setTones vX3_setTones lk_X1_136 ⟨Nat.le_of_ble_eq_true rfl, Nat.le_of_ble_eq_true rfl⟩ tb87 vq3 rfl rfl (s_X3_setTones hK hF _ ⟨by omega, by omega⟩ _ ⟨by omega, by omega⟩ _ _ _ hto) dX1_apply_8.2.2.1.1 (Nat.le_of_ble_eq_true rfl) rfl ?_
        rintro r392 h ⟨hF, p392⟩
        refine zV_goto 430 dX1_apply_8.2.2.1.2 rfl ?_
        exact zV_vret rfl dX1_apply_9.2.2.2 ⟨hF, trivial⟩
      · exact zV_vret rfl dX1_apply_9.2.2.2 ⟨hF, trivial⟩
  refine zM_of [some (.inr (.inr 54)), some (.inl x1), some (.inl x2), some (.inr (.inr s3)), some (.inr (.inr s4)), none, none] 2 rfl rfl (Nat.le_of_ble_eq_true rfl) rfl ?_
  refine zW_aload_n (pc' := 1) dX1_apply_0.1.1.1.1 rfl rfl ?_
  refine zG_ref (pc' := 4) 41 fg_X1_33 tb54 rfl dX1_apply_0.1.1.1.2 rfl ?_
  refine zW_iload_n (pc' := 5) dX1_apply_0.1.1.2.1 rfl rfl ?_
  refine zW_iconst (pc' := 6) dX1_apply_0.1.1.2.2 rfl ?_
  refine cvI2 (pc' := 9) kX7_numberOf vX7_numberOf lk_X1_70 ⟨Nat.le_of_ble_eq_true rfl, Nat.le_of_ble_eq_true rfl⟩ tb41 vq7 rfl rfl (s_X7_numberOf hK hF _ ⟨by omega, by omega⟩ _ ⟨by omega, by omega⟩) dX1_apply_0.1.2.1.1 (Nat.le_of_ble_eq_true rfl) rfl ?_
  rintro r6 z6 ⟨hz6, p6⟩; subst z6
  refine zW_istore (ls' := [_, _, _, _, _, _, _]) (pc' := 11) dX1_apply_0.1.2.1.2 (by decide) rfl rfl rfl ?_
  refine zW_aload_n (pc' := 12) dX1_apply_0.1.2.2.1 rfl rfl ?_
  refine zG_ref (pc' := 15) 41 fg_X1_33 tb54 rfl dX1_apply_0.1.2.2.2 rfl ?_
  refine zW_iload_n (pc' := 16) dX1_apply_0.2.1.1.1 rfl rfl ?_
  refine zW_iconst (pc' := 17) dX1_apply_0.2.1.1.2 rfl ?_
  refine cvI2 (pc' := 20) kX7_numberOf vX7_numberOf lk_X1_70 ⟨Nat.le_of_ble_eq_true rfl, Nat.le_of_ble_eq_true rfl⟩ tb41 vq7 rfl rfl (s_X7_numberOf hK hF _ ⟨by omega, by omega⟩ _ ⟨by omega, by omega⟩) dX1_apply_0.2.1.2.1 (Nat.le_of_ble_eq_true rfl) rfl ?_
  rintro r17 z17 ⟨hz17, p17⟩; subst z17
  refine zW_istore (ls' := [_, _, _, _, _, _, _]) (pc' := 22) dX1_apply_0.2.1.2.2 (by decide) rfl rfl rfl ?_
  refine zW_aload (pc' := 24) dX1_apply_0.2.2.1.1 rfl rfl ?_
  refine zW_aload_n (pc' := 25) dX1_apply_0.2.2.1.2 rfl rfl ?_
  refine zG_ful (pc' := 28) (by omega) (by omega) fg_X1_81 dX1_apply_0.2.2.2.1 rfl ?_
  refine zV_ifQ_ne (tgt := 44) (pc' := 31) dX1_apply_0.2.2.2.2 rfl rfl ?_ ?_
  · refine zW_iconst (pc' := 45) dX1_apply_1.1.2.2.1 rfl ?_
    refine zV_goto 49 dX1_apply_1.1.2.2.2 rfl ?_
    exact k49 _ _ _ _ hF ⟨by omega, by omega⟩ ⟨by omega, by omega⟩ (by omega)
  · refine zW_aload_n (pc' := 32) dX1_apply_1.1.1.1.1 rfl rfl ?_
    refine zG_ref (pc' := 35) 41 fg_X1_33 tb54 rfl dX1_apply_1.1.1.1.2 rfl ?_
    refine zW_iload_n (pc' := 36) dX1_apply_1.1.1.2.1 rfl rfl ?_
    refine cvI1 (pc' := 39) kX7_letterOf vX7_letterOf lk_X1_85 ⟨Nat.le_of_ble_eq_true rfl, Nat.le_of_ble_eq_true rfl⟩ tb41 vq7 rfl rfl (s_X7_letterOf hK hF _ ⟨by omega, by omega⟩) dX1_apply_1.1.1.2.2 (Nat.le_of_ble_eq_true rfl) rfl ?_
    rintro r36 z36 ⟨hz36, p36⟩; subst z36
    refine zW_bipush (pc' := 41) dX1_apply_1.1.2.1.1 rfl rfl ?_
    refine zV_cm_ne (tgt := 48) (pc' := 44) dX1_apply_1.1.2.1.2 rfl rfl ⟨by omega, by omega⟩ ⟨by omega, by omega⟩ (fun c41 => ?_) (fun c41 => ?_)
    · refine zW_iconst (pc' := 49) dX1_apply_1.2.1.1.1 rfl ?_
      exact k49 _ _ _ _ hF ⟨by omega, by omega⟩ ⟨by omega, by omega⟩ (by omega)
    · refine zW_iconst (pc' := 45) dX1_apply_1.1.2.2.1 rfl ?_
      refine zV_goto 49 dX1_apply_1.1.2.2.2 rfl ?_
      exact k49 _ _ _ _ hF ⟨by omega, by omega⟩ ⟨by omega, by omega⟩ (by omega)

abbrev q_X1_sheetOf (b : Bd) (κ : Hp) (x1 : Int) : Int → Hp → Prop := fun r h' => Fr b κ h' ∧ ((56 ≤ r) ∧ (r ≤ 70))
def SheetOK (b : Bd) : Prop := ∀ {G : Ga} {κ h : Hp}, KC κ → Fr b κ h → ∀ x1 : Int, rng x1 → zM G mX1_sheetOf yX1_sheetOf [.inr (.inr 54), .inl x1] h (q_X1_sheetOf b κ x1)
def OkT (b : Bd) : Prop := (OkL b 69 ∧ OkL b 70) ∧ OkL b 84 ∧ OkL b 85
theorem OkT.l {b : Bd} {s : Nat} (h : OkT b) (hs : 69 ≤ s ∧ s ≤ 70) : OkL b (s + 15) := by
  rcases (by omega : s = 69 ∨ s = 70) with rfl | rfl
  · exact h.2.1
  · exact h.2.2
theorem OkT.f {b : Bd} {s : Nat} (h : OkT b) (hs : 69 ≤ s ∧ s ≤ 70) : OkL b s := by
  rcases (by omega : s = 69 ∨ s = 70) with rfl | rfl
  · exact h.1.1
  · exact h.1.2

abbrev q_X1_lastWith (b : Bd) (κ : Hp) (x1 : Int) (x2 : Int) : Int → Hp → Prop := fun r h' => Fr b κ h' ∧ ((56 ≤ r) ∧ (r ≤ 70))
set_option maxHeartbeats 4000000 in
set_option maxRecDepth 20000 in
theorem s_X1_lastWith {G : Ga} {b : Bd} {κ h : Hp} (hK : KC κ) (hF : Fr b κ h) (x1 : Int) (hx1 : 1 ≤ x1 ∧ x1 ≤ 12 ∧ x1 - κ 41 0 ≤ 0) (x2 : Int) (hx2 : rng x2) (hSh : SheetOK b) (hTr : OkT b) : zM G mX1_lastWith yX1_lastWith [.inr (.inr 54), .inl x1, .inl x2] h (q_X1_lastWith b κ x1 x2) := by
  have f_41_0 := KCm hK
  unfold rng at hx2
  have main : ∀ N : Nat, (∀ (v4 : Int) (t3 : Nat) (h : Hp), Fr b κ h → (56 ≤ t3 ∧ t3 ≤ 70) → (1 ≤ v4 ∧ v4 ≤ 13) → (v4 - κ 41 0 ≤ 1) → 26488 + 44 * (13 - v4) + 43 < (N : Int) → zV G mX1_lastWith (q_X1_lastWith b κ x1 x2) 11 [some (.inr (.inr 54)), some (.inl x1), some (.inl x2), some (.inr (.inr t3)), some (.inl v4), none] [] h) ∧ (∀ (v4 : Int) (t3 u0 : Nat) (h : Hp), Fr b κ h → (56 ≤ t3 ∧ t3 ≤ 70) → (1 ≤ v4 ∧ v4 ≤ 12) → (v4 - κ 41 0 ≤ 0) → (56 ≤ u0 ∧ u0 ≤ 70) → (69 ≤ u0) → 26488 + 44 * (13 - v4) + 21 < (N : Int) → zV G mX1_lastWith (q_X1_lastWith b κ x1 x2) 53 [some (.inr (.inr 54)), some (.inl x1), some (.inl x2), some (.inr (.inr t3)), some (.inl v4), none] [.inr (.inr u0)] h) := by
    intro N
    induction N with
    | zero =>
      refine ⟨?_, ?_⟩
      · intro v4 t3 h hF g0 g1 g2 hm
        exfalso; omega
      · intro v4 t3 u0 h hF g0 g1 g2 g3 gc0 hm
        exfalso; omega
    | succ N ih =>
      obtain ⟨k11, k53⟩ := ih
      refine ⟨?_, ?_⟩
      · intro v4 t3 h hF g0 g1 g2 hm
        refine zW_iload (pc' := 13) dX1_lastWith_0.2.1.1.1 rfl rfl ?_
        refine zW_aload_n (pc' := 14) dX1_lastWith_0.2.1.1.2 rfl rfl ?_
        refine zG_ref (pc' := 17) 41 fg_X1_33 tb54 rfl dX1_lastWith_0.2.1.2.1 rfl ?_
        refine zG_key (pc' := 20) hF rfl fg_X1_53 tb41 rfl dX1_lastWith_0.2.1.2.2 rfl ?_
        refine zV_cm_gt (tgt := 93) (pc' := 23) dX1_lastWith_0.2.2.1.1 rfl rfl ⟨by omega, by omega⟩ ⟨by omega, by omega⟩ (fun c20 => ?_) (fun c20 => ?_)
        · refine zW_aload_n (pc' := 94) dX1_lastWith_3.1 rfl rfl ?_
          exact zV_aret rfl dX1_lastWith_3.2 ⟨hF, by omega⟩
        · refine zW_iload (pc' := 25) dX1_lastWith_0.2.2.1.2 rfl rfl ?_
          refine zW_iload_n (pc' := 26) dX1_lastWith_0.2.2.2.1 rfl rfl ?_
          refine zV_cm_gt (tgt := 34) (pc' := 29) dX1_lastWith_0.2.2.2.2 rfl rfl ⟨by omega, by omega⟩ ⟨by omega, by omega⟩ (fun c26 => ?_) (fun c26 => ?_)
          · refine zW_aload_n (pc' := 35) dX1_lastWith_1.1.1.2.2 rfl rfl ?_
            refine zW_aload_n (pc' := 36) dX1_lastWith_1.1.2.1.1 rfl rfl ?_
            refine zG_ref (pc' := 39) 69 fg_X1_18 tb54 rfl dX1_lastWith_1.1.2.1.2 rfl ?_
            refine zV_acmp_ne (tgt := 49) (pc' := 42) dX1_lastWith_1.1.2.2.1 rfl rfl ?_ ?_
            · refine zW_aload_n (pc' := 50) dX1_lastWith_1.2.1.2.1 rfl rfl ?_
              refine zG_ref (pc' := 53) 69 fg_X1_18 tb54 rfl dX1_lastWith_1.2.1.2.2 rfl ?_
              exact k53 _ _ _ _ hF (by omega) (by omega) (by omega) (by omega) (by omega) (by omega)
            · refine zW_aload_n (pc' := 43) dX1_lastWith_1.1.2.2.2 rfl rfl ?_
              refine zG_ref (pc' := 46) 70 fg_X1_22 tb54 rfl dX1_lastWith_1.2.1.1.1 rfl ?_
              refine zV_goto 53 dX1_lastWith_1.2.1.1.2 rfl ?_
              exact k53 _ _ _ _ hF (by omega) (by omega) (by omega) (by omega) (by omega) (by omega)
          · refine zW_iload_n (pc' := 30) dX1_lastWith_1.1.1.1.1 rfl rfl ?_
            refine zW_iconst (pc' := 31) dX1_lastWith_1.1.1.1.2 rfl ?_
            refine zV_cm_eq (tgt := 87) (pc' := 34) dX1_lastWith_1.1.1.2.1 rfl rfl ⟨by omega, by omega⟩ ⟨by omega, by omega⟩ (fun c31 => ?_) (fun c31 => ?_)
            · refine zW_iinc (ls' := [_, _, _, _, _, _]) (pc' := 90) dX1_lastWith_2.2.2.2.1 rfl (by decide) rfl rfl rfl ?_
              refine zV_goto 11 dX1_lastWith_2.2.2.2.2 rfl ?_
              exact k11 _ _ _ hF (by omega) (by omega) (by omega) (by omega)
            · refine zW_aload_n (pc' := 35) dX1_lastWith_1.1.1.2.2 rfl rfl ?_
              refine zW_aload_n (pc' := 36) dX1_lastWith_1.1.2.1.1 rfl rfl ?_
              refine zG_ref (pc' := 39) 69 fg_X1_18 tb54 rfl dX1_lastWith_1.1.2.1.2 rfl ?_
              refine zV_acmp_ne (tgt := 49) (pc' := 42) dX1_lastWith_1.1.2.2.1 rfl rfl ?_ ?_
              · refine zW_aload_n (pc' := 50) dX1_lastWith_1.2.1.2.1 rfl rfl ?_
                refine zG_ref (pc' := 53) 69 fg_X1_18 tb54 rfl dX1_lastWith_1.2.1.2.2 rfl ?_
                exact k53 _ _ _ _ hF (by omega) (by omega) (by omega) (by omega) (by omega) (by omega)
              · refine zW_aload_n (pc' := 43) dX1_lastWith_1.1.2.2.2 rfl rfl ?_
                refine zG_ref (pc' := 46) 70 fg_X1_22 tb54 rfl dX1_lastWith_1.2.1.1.1 rfl ?_
                refine zV_goto 53 dX1_lastWith_1.2.1.1.2 rfl ?_
                exact k53 _ _ _ _ hF (by omega) (by omega) (by omega) (by omega) (by omega) (by omega)
      · intro v4 t3 u0 h hF g0 g1 g2 g3 gc0 hm
        refine zW_astore (ls' := [_, _, _, _, _, _]) (pc' := 55) dX1_lastWith_1.2.2.1.1 (by decide) rfl rfl rfl ?_
        refine zW_aload_n (pc' := 56) dX1_lastWith_1.2.2.1.2 rfl rfl ?_
        refine zW_iload (pc' := 58) dX1_lastWith_1.2.2.2.1 rfl rfl ?_
        refine zW_iload (pc' := 60) dX1_lastWith_1.2.2.2.2 rfl rfl ?_
        refine zW_iload_n (pc' := 61) dX1_lastWith_2.1.1.1.1 rfl rfl ?_
        refine zV_cm_ne (tgt := 68) (pc' := 64) dX1_lastWith_2.1.1.1.2 rfl rfl ⟨by omega, by omega⟩ ⟨by omega, by omega⟩ (fun c61 => ?_) (fun c61 => ?_)
        · refine zW_aload_n (pc' := 69) dX1_lastWith_2.1.2.1.1 rfl rfl ?_
          refine zG_ref (pc' := 72) 41 fg_X1_33 tb54 rfl dX1_lastWith_2.1.2.1.2 rfl ?_
          refine zW_iload (pc' := 74) dX1_lastWith_2.1.2.2.1 rfl rfl ?_
          refine zW_iconst (pc' := 75) dX1_lastWith_2.1.2.2.2 rfl ?_
          refine cvI2 (pc' := 78) kX7_numberOf vX7_numberOf lk_X1_70 ⟨Nat.le_of_ble_eq_true rfl, Nat.le_of_ble_eq_true rfl⟩ tb41 vq7 rfl rfl (s_X7_numberOf hK hF _ ⟨by omega, by omega⟩ _ ⟨by omega, by omega⟩) dX1_lastWith_2.2.1.1.1 (Nat.le_of_ble_eq_true rfl) rfl ?_
          rintro r75 z75 ⟨hz75, p75⟩; subst z75
          refine zW_aload_n (pc' := 79) dX1_lastWith_2.2.1.1.2 rfl rfl ?_
          refine zW_aload (pc' := 81) dX1_lastWith_2.2.1.2.1 rfl rfl ?_
          refine cvV4 (pc' := 84) kX1_apply vX1_apply lk_X1_73 ⟨Nat.le_of_ble_eq_true rfl, Nat.le_of_ble_eq_true rfl⟩ tb54 vq1 rfl rfl (s_X1_apply hK hF _ ⟨by omega, by omega⟩ _ ⟨by omega, by omega⟩ _ ⟨by omega, by omega⟩ _ ⟨by omega, by omega⟩ (hTr.l (by omega)) (hTr.f (by omega))) dX1_lastWith_2.2.1.2.2 (Nat.le_of_ble_eq_true rfl) rfl ?_
          rintro r81 h ⟨hF, p81⟩
          refine zW_aload (pc' := 86) dX1_lastWith_2.2.2.1.1 rfl rfl ?_
          refine zW_astore_n (ls' := [_, _, _, _, _, _]) (pc' := 87) dX1_lastWith_2.2.2.1.2 (by decide) rfl rfl rfl ?_
          refine zW_iinc (ls' := [_, _, _, _, _, _]) (pc' := 90) dX1_lastWith_2.2.2.2.1 rfl (by decide) rfl rfl rfl ?_
          refine zV_goto 11 dX1_lastWith_2.2.2.2.2 rfl ?_
          refine zV_clr 5 (ls' := [_, _, _, _, _, _]) rfl ?_
          exact k11 _ _ _ hF (by omega) (by omega) (by omega) (by omega)
        · refine zW_iload_n (pc' := 65) dX1_lastWith_2.1.1.2.1 rfl rfl ?_
          refine zV_goto 78 dX1_lastWith_2.1.1.2.2 rfl ?_
          refine zW_aload_n (pc' := 79) dX1_lastWith_2.2.1.1.2 rfl rfl ?_
          refine zW_aload (pc' := 81) dX1_lastWith_2.2.1.2.1 rfl rfl ?_
          refine cvV4 (pc' := 84) kX1_apply vX1_apply lk_X1_73 ⟨Nat.le_of_ble_eq_true rfl, Nat.le_of_ble_eq_true rfl⟩ tb54 vq1 rfl rfl (s_X1_apply hK hF _ ⟨by omega, by omega⟩ _ ⟨by omega, by omega⟩ _ ⟨by omega, by omega⟩ _ ⟨by omega, by omega⟩ (hTr.l (by omega)) (hTr.f (by omega))) dX1_lastWith_2.2.1.2.2 (Nat.le_of_ble_eq_true rfl) rfl ?_
          rintro r81 h ⟨hF, p81⟩
          refine zW_aload (pc' := 86) dX1_lastWith_2.2.2.1.1 rfl rfl ?_
          refine zW_astore_n (ls' := [_, _, _, _, _, _]) (pc' := 87) dX1_lastWith_2.2.2.1.2 (by decide) rfl rfl rfl ?_
          refine zW_iinc (ls' := [_, _, _, _, _, _]) (pc' := 90) dX1_lastWith_2.2.2.2.1 rfl (by decide) rfl rfl rfl ?_
          refine zV_goto 11 dX1_lastWith_2.2.2.2.2 rfl ?_
          refine zV_clr 5 (ls' := [_, _, _, _, _, _]) rfl ?_
          exact k11 _ _ _ hF (by omega) (by omega) (by omega) (by omega)
  refine zM_of [some (.inr (.inr 54)), some (.inl x1), some (.inl x2), none, none, none] 3 rfl rfl (Nat.le_of_ble_eq_true rfl) rfl ?_
  refine zW_aload_n (pc' := 1) dX1_lastWith_0.1.1.1.1 rfl rfl ?_
  refine zW_iload_n (pc' := 2) dX1_lastWith_0.1.1.1.2 rfl rfl ?_
  refine zW_iconst (pc' := 3) dX1_lastWith_0.1.1.2.1 rfl ?_
  refine zW_isub (pc' := 4) dX1_lastWith_0.1.1.2.2 rfl ?_
  refine cvA1 (pc' := 7) kX1_sheetOf vX1_sheetOf lk_X1_77 ⟨Nat.le_of_ble_eq_true rfl, Nat.le_of_ble_eq_true rfl⟩ tb54 vq1 rfl rfl (hSh hK hF _ ⟨by omega, by omega⟩) dX1_lastWith_0.1.2.1.1 (Nat.le_of_ble_eq_true rfl) rfl ?_
  rintro r4 h ⟨hF, p4⟩
  obtain ⟨q4, z4⟩ : ∃ z : Nat, z = r4.toNat := ⟨_, rfl⟩
  rw [← z4]
  refine zW_astore_n (ls' := [_, _, _, _, _, _]) (pc' := 8) dX1_lastWith_0.1.2.1.2 (by decide) rfl rfl rfl ?_
  refine zW_iload_n (pc' := 9) dX1_lastWith_0.1.2.2.1 rfl rfl ?_
  refine zW_istore (ls' := [_, _, _, _, _, _]) (pc' := 11) dX1_lastWith_0.1.2.2.2 (by decide) rfl rfl rfl ?_
  exact (main 10000000000000000000000000000000000000000).1 _ _ _ hF (by omega) (by omega) (by omega) (by omega)
